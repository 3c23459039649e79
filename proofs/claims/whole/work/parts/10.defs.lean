noncomputable section
def f_X7_within (a0 : Int32) (a1 : Int32) (a2 : Int32) : Option Int32 := (if a0 < a1 then some (0 : Int32)
 else (if a2 < a0 then some (0 : Int32)
 else some (1 : Int32)))
def f_X7_canBe (a0 : Int32) (a1 : Int32) : Option Int32 := bo1 (f_X7_within a0 (0 : Int32) (12 : Int32)) fun r2 =>
 (if r2 = (0 : Int32) then some (0 : Int32)
 else chk (inb a0 13) (chk (inb a0 13) (bo1 (f_X7_within a1 (sLST a0.toNatClampNeg) (sMST a0.toNatClampNeg)) fun r6 =>
 (if r6 = (0 : Int32) then some (0 : Int32)
 else some (1 : Int32)))))
def f_X1_put (c : Nat) (I : MI) (J : MJ) (a1 : Int32) (a2 : Int32) : Option (MI × MJ) := bo1 (f_X7_within a1 (0 : Int32) (12 : Int32)) fun r2 =>
 (if r2 = (0 : Int32) then some (I, J)
 else chk (inb a1 13) ((if (I (c + 1) a1.toNatClampNeg) = a2 then some (I, J)
 else chk (inb a1 13) (bnd (w2 I (c + 1) a1.toNatClampNeg a2) fun I5 =>
 (if a1 = (6 : Int32) then some (I5, J)
 else (if a1 = (9 : Int32) then some (I5, J)
 else bnd (w2 I5 c 1 (0 : Int32)) fun I6 =>
 some (I6, J)))))))
def LB_X7_ram_38 (I : MI) (J : MJ) (x1 : Int32) (x2 : Int32) (x3 : Int32) (x4 : Int32) (s0 : Int32) : Option (Int32 × MI × MJ) := (if s0 = (0 : Int32) then some ((-1 : Int32), I, J)
 else (if x1 < x2 then (if (I 0 1) < (4 : Int32) then chk (inb (I 0 1) 4) (bo2 (f_X1_put (rc (I 0 1)) I J (0 : Int32) x1) fun I3 J4 =>
 bo2 (f_X1_put (rc (I 0 1)) I3 J4 (1 : Int32) x2) fun I6 J7 =>
 bo2 (f_X1_put (rc (I 0 1)) I6 J7 (2 : Int32) x3) fun I9 J10 =>
 bo2 (f_X1_put (rc (I 0 1)) I9 J10 (3 : Int32) x4) fun I12 J13 =>
 bnd (w2 I12 0 1 ((I12 0 1) + (1 : Int32))) fun I14 =>
 some (((I14 0 1) - (1 : Int32)), I14, J13))
 else some ((-3 : Int32), I, J))
 else some ((-1 : Int32), I, J)))
def LB_X7_ram_37 (I : MI) (J : MJ) (x1 : Int32) (x2 : Int32) (x3 : Int32) (x4 : Int32) : Option (Int32 × MI × MJ) := LB_X7_ram_38 I J x1 x2 x3 x4 (0 : Int32)
def f_X7_ram (I : MI) (J : MJ) (a1 : Int32) (a2 : Int32) (a3 : Int32) (a4 : Int32) : Option (Int32 × MI × MJ) := bo1 (f_X7_canBe (0 : Int32) a1) fun r2 =>
 (if r2 = (0 : Int32) then LB_X7_ram_37 I J a1 a2 a3 a4
 else bo1 (f_X7_canBe (1 : Int32) a2) fun r4 =>
 (if r4 = (0 : Int32) then LB_X7_ram_37 I J a1 a2 a3 a4
 else bo1 (f_X7_canBe (2 : Int32) a3) fun r6 =>
 (if r6 = (0 : Int32) then LB_X7_ram_37 I J a1 a2 a3 a4
 else bo1 (f_X7_canBe (3 : Int32) a4) fun r8 =>
 (if r8 = (0 : Int32) then LB_X7_ram_37 I J a1 a2 a3 a4
 else LB_X7_ram_38 I J a1 a2 a3 a4 (1 : Int32)))))
def f_X7_isRam (I : MI) (J : MJ) (a1 : Int32) : Option Int32 := bo1 (f_X7_within a1 (0 : Int32) ((I 0 1) - (1 : Int32))) fun r2 =>
 chk (isB r2) (some r2)
def f_X1_trait (c : Nat) (I : MI) (J : MJ) (a1 : Int32) : Option Int32 := bo1 (f_X7_within a1 (0 : Int32) (12 : Int32)) fun r2 =>
 (if r2 = (0 : Int32) then some (-1 : Int32)
 else chk (inb a1 13) (some (I (c + 1) a1.toNatClampNeg)))
def LB_X7_set_40 (I : MI) (J : MJ) (x2 : Int32) (x3 : Int32) (c4 : Nat) : Option (Int32 × MI × MJ) := (if x2 = (1 : Int32) then bo1 (f_X1_trait c4 I J (0 : Int32)) fun r7 =>
 (if r7 < x3 then bo1 (f_X1_trait c4 I J x2) fun r9 =>
 bo2 (f_X1_put c4 I J x2 x3) fun I11 J12 =>
 some (r9, I11, J12)
 else some ((-1 : Int32), I, J))
 else bo1 (f_X1_trait c4 I J x2) fun r2 =>
 bo2 (f_X1_put c4 I J x2 x3) fun I4 J5 =>
 some (r2, I4, J5))
def f_X7_set (I : MI) (J : MJ) (a1 : Int32) (a2 : Int32) (a3 : Int32) : Option (Int32 × MI × MJ) := bo1 (f_X7_isRam I J a1) fun r2 =>
 (if r2 = (0 : Int32) then some ((-1 : Int32), I, J)
 else bo1 (f_X7_canBe a2 a3) fun r4 =>
 (if r4 = (0 : Int32) then some ((-1 : Int32), I, J)
 else chk (inb a1 4) ((if a2 = (0 : Int32) then bo1 (f_X1_trait (rc a1) I J (1 : Int32)) fun r7 =>
 (if r7 ≤ a3 then some ((-1 : Int32), I, J)
 else LB_X7_set_40 I J a2 a3 (rc a1))
 else LB_X7_set_40 I J a2 a3 (rc a1)))))
def f_X7_about (I : MI) (J : MJ) (a1 : Int32) (a2 : Int32) : Option Int32 := bo1 (f_X7_isRam I J a1) fun r2 =>
 (if r2 = (0 : Int32) then some (-1 : Int32)
 else bo1 (f_X7_within a2 (0 : Int32) (12 : Int32)) fun r4 =>
 (if r4 = (0 : Int32) then some (-1 : Int32)
 else chk (inb a1 4) (bo1 (f_X1_trait (rc a1) I J a2) fun r7 =>
 some r7)))
def LB_X1_workBy_38 (c : Nat) (I : MI) (J : MJ) (x1 : Int32) (x2 : Int32) : Option Int32 := (if x1 < (2 : Int32) then some x2
 else bnd (((imin (x2 + (x2 / (10 : Int32))) (85 : Int32)) - ((2 : Int32) * (I (c + 1) 8)))) fun v1 =>
 some v1)
def f_X1_workBy (c : Nat) (I : MI) (J : MJ) (a1 : Int32) : Option Int32 := bnd ((((40 : Int32) + ((I (c + 1) 6) / (4 : Int32))) - ((3 : Int32) * (I (c + 1) 7)))) fun v1 =>
 (if a1 < (1 : Int32) then LB_X1_workBy_38 c I J a1 v1
 else bnd ((imin (v1 + (8 : Int32)) (80 : Int32))) fun v2 =>
 LB_X1_workBy_38 c I J a1 v2)
def f_X7_work (I : MI) (J : MJ) (a1 : Int32) (a2 : Int32) : Option (Int32 × MI × MJ) := bo1 (f_X7_canBe (10 : Int32) a1) fun r2 =>
 (if r2 = (0 : Int32) then some ((-1 : Int32), I, J)
 else bo1 (f_X7_isRam I J a2) fun r4 =>
 (if r4 = (0 : Int32) then some ((-1 : Int32), I, J)
 else chk (inb a1 3) (bnd (w2J J 0 12 ((J 0 12) + ((sTRC a1.toNatClampNeg).toInt64))) fun J6 =>
 chk (inb a2 4) (bo1 (f_X1_workBy (rc a2) I J6 a1) fun r9 =>
 some (r9, I, J6)))))
def f_X1_share (a0 : Int64) (a2 : Int64) : Option Int64 := (if a2 ≤ (0 : Int64) then some (0 : Int64)
 else chk (nzl a2) (some (a0 / a2)))
def LB_X1_reckon_106 (c : Nat) (kk106 : MI → MJ → Int32 → Int32 → Int32 → Int32 → Option (MI × MJ)) (I : MI) (J : MJ) (x1 : Int32) (x2 : Int32) (x4 : Int32) (x5 : Int32) : Option (MI × MJ) := (if (400 : Int32) < (I c 3) then some (I, J)
 else bnd ((I c 4)) fun v1 =>
 bnd (w2 I c 4 ((v1 + x1) - ((v1 * x2) / (100 : Int32)))) fun I2 =>
 bnd (w2 I2 c 5 ((I2 c 5) + (((I2 c 4) * x4) / (100 : Int32)))) fun I3 =>
 (if (((I3 c 4) * (I3 c 4)) / (50 : Int32)) < x5 then (if v1 < (I3 c 4) then bnd (w2 I3 c 3 ((I3 c 3) + (1 : Int32))) fun I4 =>
 kk106 I4 J x1 x2 x4 x5
 else some (I3, J))
 else bnd (w2 I3 c 2 (0 : Int32)) fun I5 =>
 bnd (w2 I5 c 6 (((I5 c 3) + (4 : Int32)) + ((I5 (c + 1) 1) / (200 : Int32)))) fun I6 =>
 bo1 (f_X1_share (3600 : Int64) ((I6 c 6).toInt64)) fun r8 =>
 bnd (w2 I6 c 7 r8.toInt32) fun I9 =>
 some (I9, J)))
def LP_X1_reckon_106 (c : Nat) : Nat → MI → MJ → Int32 → Int32 → Int32 → Int32 → Option (MI × MJ)
  | 0, _, _, _, _, _, _ => none
  | n + 1, I, J, x1, x2, x4, x5 => LB_X1_reckon_106 c (fun I J x1 x2 x4 x5 => LP_X1_reckon_106 c n I J x1 x2 x4 x5) I J x1 x2 x4 x5
def f_X1_reckon (c : Nat) (I : MI) (J : MJ) : Option (MI × MJ) := (if (I c 1) = (0 : Int32) then bnd (w2 I c 1 (1 : Int32)) fun I1 =>
 bnd (w2 I1 c 2 (1 : Int32)) fun I2 =>
 bnd (w2 I2 c 4 (0 : Int32)) fun I3 =>
 bnd (w2 I3 c 5 (0 : Int32)) fun I4 =>
 bnd (w2 I4 c 7 (0 : Int32)) fun I5 =>
 bo1 (f_X1_share (((200 : Int32) * (I5 (c + 1) 0)).toInt64) ((I5 (c + 1) 2).toInt64)) fun r7 =>
 bnd (r7.toInt32) fun v8 =>
 bnd (((3 : Int32) + (I5 (c + 1) 8))) fun v9 =>
 bnd (((I5 (c + 1) 5) + (I5 (c + 1) 7))) fun v10 =>
 bnd (((I5 (c + 1) 3) * v10)) fun v11 =>
 bnd (((I5 (c + 1) 4) * v10)) fun v12 =>
 bnd (w2 I5 c 3 (1 : Int32)) fun I13 =>
 LP_X1_reckon_106 c FU I13 J v8 v9 v11 v12
 else some (I, J))
def f_X1_stalls (c : Nat) (I : MI) (J : MJ) : Option (Int32 × MI × MJ) := bo2 (f_X1_reckon c I J) fun I2 J3 =>
 chk (isB (I2 c 2)) (some ((I2 c 2), I2, J3))
def f_X1_shutTick (c : Nat) (I : MI) (J : MJ) : Option (Int32 × MI × MJ) := bo2 (f_X1_reckon c I J) fun I2 J3 =>
 some ((I2 c 3), I2, J3)
def f_X1_shutSpeed (c : Nat) (I : MI) (J : MJ) : Option (Int32 × MI × MJ) := bo2 (f_X1_reckon c I J) fun I2 J3 =>
 some ((I2 c 4), I2, J3)
def f_X1_wasteOfBeat (c : Nat) (I : MI) (J : MJ) : Option (Int32 × MI × MJ) := bo2 (f_X1_reckon c I J) fun I2 J3 =>
 some ((I2 c 5), I2, J3)
def f_X1_upOfBeat (c : Nat) (I : MI) (J : MJ) : Option (Int32 × MI × MJ) := bo2 (f_X1_reckon c I J) fun I2 J3 =>
 (if (I2 c 2) = (0 : Int32) then (if ((I2 (c + 1) 1) / (20 : Int32)) ≤ (I2 c 4) then bo1 (f_X1_workBy c I2 J3 (I2 (c + 1) 10)) fun r5 =>
 bo1 (f_X1_share ((((I2 c 5).toInt64) * ((I2 (c + 1) 0).toInt64)) * r5.toInt64) ((100 : Int64) * ((I2 (c + 1) 1).toInt64))) fun r7 =>
 bnd ((((r7 * ((I2 (c + 1) 9).toInt64)) + (19 : Int64)) / (20 : Int64))) fun v8 =>
 some ((r7 - v8).toInt32, I2, J3)
 else some ((0 : Int32), I2, J3))
 else some ((0 : Int32), I2, J3))
def f_X1_spanOfBeat (c : Nat) (I : MI) (J : MJ) : Option (Int32 × MI × MJ) := bo2 (f_X1_reckon c I J) fun I2 J3 =>
 some ((I2 c 6), I2, J3)
def f_X7_beat (I : MI) (J : MJ) (a1 : Int32) (a2 : Int32) : Option (Int32 × MI × MJ) := bo1 (f_X7_isRam I J a1) fun r2 =>
 (if r2 = (0 : Int32) then some ((-1 : Int32), I, J)
 else bo1 (f_X7_within a2 (0 : Int32) (4 : Int32)) fun r4 =>
 (if r4 = (0 : Int32) then some ((-1 : Int32), I, J)
 else chk (inb a1 4) (bo3 (f_X1_stalls (rc a1) I J) fun r9 I7 J8 =>
 (if r9 = (0 : Int32) then (if a2 = (0 : Int32) then bo3 (f_X1_shutTick (rc a1) I7 J8) fun r13 I11 J12 =>
 some (r13, I11, J12)
 else (if a2 = (1 : Int32) then bo3 (f_X1_shutSpeed (rc a1) I7 J8) fun r17 I15 J16 =>
 some (r17, I15, J16)
 else (if a2 = (2 : Int32) then bo3 (f_X1_wasteOfBeat (rc a1) I7 J8) fun r21 I19 J20 =>
 some (r21, I19, J20)
 else (if a2 = (3 : Int32) then bo3 (f_X1_upOfBeat (rc a1) I7 J8) fun r25 I23 J24 =>
 some (r25, I23, J24)
 else bo3 (f_X1_spanOfBeat (rc a1) I7 J8) fun r29 I27 J28 =>
 some (r29, I27, J28)))))
 else some ((-9 : Int32), I7, J8)))))
def f_X1_beatsAnHour (c : Nat) (I : MI) (J : MJ) : Option (Int32 × MI × MJ) := bo2 (f_X1_reckon c I J) fun I2 J3 =>
 some ((I2 c 7), I2, J3)
def f_X1_wasteAnHour (c : Nat) (I : MI) (J : MJ) : Option (Int32 × MI × MJ) := bo3 (f_X1_stalls c I J) fun r4 I2 J3 =>
 (if r4 = (0 : Int32) then bo3 (f_X1_beatsAnHour c I2 J3) fun r8 I6 J7 =>
 some ((r8 * (I6 c 5)), I6, J7)
 else some ((((((36 : Int32) * (I2 (c + 1) 3)) * ((I2 (c + 1) 5) + (I2 (c + 1) 7))) * (I2 (c + 1) 0)) / (10 : Int32)), I2, J3))
def f_X1_upAnHour (c : Nat) (I : MI) (J : MJ) : Option (Int32 × MI × MJ) := bo3 (f_X1_beatsAnHour c I J) fun r4 I2 J3 =>
 bo3 (f_X1_upOfBeat c I2 J3) fun r8 I6 J7 =>
 some ((r4 * r8), I6, J7)
def f_X1_drawsAnHour (c : Nat) (I : MI) (J : MJ) : Option (Int32 × MI × MJ) := bo3 (f_X1_wasteAnHour c I J) fun r4 I2 J3 =>
 bo3 (f_X1_upAnHour c I2 J3) fun r8 I6 J7 =>
 some ((r4 + r8), I6, J7)
def f_X7_hourly (I : MI) (J : MJ) (a1 : Int32) (a2 : Int32) : Option (Int32 × MI × MJ) := bo1 (f_X7_isRam I J a1) fun r2 =>
 (if r2 = (0 : Int32) then some ((-1 : Int32), I, J)
 else bo1 (f_X7_within a2 (0 : Int32) (3 : Int32)) fun r4 =>
 (if r4 = (0 : Int32) then some ((-1 : Int32), I, J)
 else chk (inb a1 4) ((if a2 = (0 : Int32) then bo3 (f_X1_beatsAnHour (rc a1) I J) fun r9 I7 J8 =>
 some (r9, I7, J8)
 else (if a2 = (1 : Int32) then bo3 (f_X1_wasteAnHour (rc a1) I J) fun r13 I11 J12 =>
 some (r13, I11, J12)
 else (if a2 = (2 : Int32) then bo3 (f_X1_upAnHour (rc a1) I J) fun r17 I15 J16 =>
 some (r17, I15, J16)
 else bo3 (f_X1_drawsAnHour (rc a1) I J) fun r21 I19 J20 =>
 some (r21, I19, J20)))))))
def f_X7_isMonth (a0 : Int32) : Option Int32 := bo1 (f_X7_within a0 (0 : Int32) (11 : Int32)) fun r2 =>
 chk (isB r2) (some r2)
def f_X7_spring (I : MI) (J : MJ) (a1 : Int32) (a2 : Int32) : Option (Int32 × MI × MJ) := bo1 (f_X7_isMonth a1) fun r2 =>
 (if r2 = (0 : Int32) then some ((-1 : Int32), I, J)
 else bo1 (f_X7_within a2 (0 : Int32) (1000000 : Int32)) fun r4 =>
 (if r4 = (0 : Int32) then some ((-1 : Int32), I, J)
 else chk (inb a1 12) (bnd ((I 13 a1.toNatClampNeg)) fun v6 =>
 chk (inb a1 12) (bnd (w2 I 13 a1.toNatClampNeg a2) fun I8 =>
 some (v6, I8, J)))))
def f_X1_becomeLike (c : Nat) (I : MI) (J : MJ) (c1 : Nat) : Option (MI × MJ) := bnd (w1 I (c + 1) (va_cpy (I (c1 + 1)) (I (c + 1)) (0 : Int32).toNatClampNeg (0 : Int32).toNatClampNeg (13 : Int32).toNatClampNeg)) fun I1 =>
 bnd (w2 I1 c 1 (0 : Int32)) fun I2 =>
 some (I2, J)
def f_X7_advantage (a0 : Int32) (a1 : Int32) (a2 : Int32) (a3 : Int32) (a4 : Int32) : Option Int64 := (if a0 = (0 : Int32) then some ((a1 - a3).toInt64)
 else some ((a4.toInt64 * a1.toInt64) - (a2.toInt64 * a3.toInt64)))
def LB_X7_tuned_189 (kk67 : MI → MJ → Int32 → Int32 → Int32 → Int32 → Int32 → Int32 → Int32 → Int32 → Option (Int32 × MI × MJ)) (kk90 : MI → MJ → Int32 → Int32 → Int32 → Int32 → Int32 → Int32 → Int32 → Int32 → Int32 → Option (Int32 × MI × MJ)) (I : MI) (J : MJ) (x2 : Int32) (x3 : Int32) (x4 : Int32) (x5 : Int32) (x6 : Int32) (x7 : Int32) (x8 : Int32) (x9 : Int32) (x10 : Int32) (x11 : Int32) (x12 : Int32) (t0 : Int64) : Option (Int32 × MI × MJ) := (if (0 : Int64) < t0 then bnd (x10 + (5 : Int32)) fun v1 =>
 kk90 I J x2 x3 x4 x10 x9 x11 x12 x9 v1
 else (if t0 = (0 : Int64) then (if x5 ≤ x10 then bnd (x10 + (5 : Int32)) fun v3 =>
 kk90 I J x2 x3 x4 x5 x6 x7 x8 x9 v3
 else bnd (x10 + (5 : Int32)) fun v4 =>
 kk90 I J x2 x3 x4 x10 x9 x11 x12 x9 v4)
 else bnd (x10 + (5 : Int32)) fun v2 =>
 kk90 I J x2 x3 x4 x5 x6 x7 x8 x9 v2))
def LB_X7_tuned_90 (kk67 : MI → MJ → Int32 → Int32 → Int32 → Int32 → Int32 → Int32 → Int32 → Int32 → Option (Int32 × MI × MJ)) (kk90 : MI → MJ → Int32 → Int32 → Int32 → Int32 → Int32 → Int32 → Int32 → Int32 → Int32 → Option (Int32 × MI × MJ)) (I : MI) (J : MJ) (x2 : Int32) (x3 : Int32) (x4 : Int32) (x5 : Int32) (x6 : Int32) (x7 : Int32) (x8 : Int32) (x9 : Int32) (x10 : Int32) : Option (Int32 × MI × MJ) := (if (sMST 4) < x10 then bnd (x9 + (1 : Int32)) fun v1 =>
 kk67 I J x2 x3 x4 x5 x6 x7 x8 v1
 else bo2 (f_X1_put 10 I J (4 : Int32) x10) fun I3 J4 =>
 bo3 (f_X1_stalls 10 I3 J4) fun r8 I6 J7 =>
 (if r8 = (0 : Int32) then bo3 (f_X1_upAnHour 10 I6 J7) fun r12 I10 J11 =>
 bo3 (f_X1_wasteAnHour 10 I10 J11) fun r16 I14 J15 =>
 (if r12 ≤ (0 : Int32) then bnd (x10 + (5 : Int32)) fun v17 =>
 kk90 I14 J15 x2 x3 x4 x5 x6 x7 x8 x9 v17
 else chk (inb x2 12) ((if (r12 + r16) ≤ (I14 13 x2.toNatClampNeg) then (if x7 = (-9 : Int32) then LB_X7_tuned_189 kk67 kk90 I14 J15 x2 x3 x4 x5 x6 x7 x8 x9 x10 r12 r16 (1 : Int64)
 else bo1 (f_X7_advantage x3 r12 r16 x7 x8) fun r20 =>
 LB_X7_tuned_189 kk67 kk90 I14 J15 x2 x3 x4 x5 x6 x7 x8 x9 x10 r12 r16 r20)
 else bnd (x10 + (5 : Int32)) fun v21 =>
 kk90 I14 J15 x2 x3 x4 x5 x6 x7 x8 x9 v21)))
 else bnd (x9 + (1 : Int32)) fun v22 =>
 kk67 I6 J7 x2 x3 x4 x5 x6 x7 x8 v22))
def LP_X7_tuned_90 (kk67 : MI → MJ → Int32 → Int32 → Int32 → Int32 → Int32 → Int32 → Int32 → Int32 → Option (Int32 × MI × MJ)) : Nat → MI → MJ → Int32 → Int32 → Int32 → Int32 → Int32 → Int32 → Int32 → Int32 → Int32 → Option (Int32 × MI × MJ)
  | 0, _, _, _, _, _, _, _, _, _, _, _ => none
  | n + 1, I, J, x2, x3, x4, x5, x6, x7, x8, x9, x10 => LB_X7_tuned_90 kk67 (fun I J x2 x3 x4 x5 x6 x7 x8 x9 x10 => LP_X7_tuned_90 kk67 n I J x2 x3 x4 x5 x6 x7 x8 x9 x10) I J x2 x3 x4 x5 x6 x7 x8 x9 x10
def LB_X7_tuned_67 (kk67 : MI → MJ → Int32 → Int32 → Int32 → Int32 → Int32 → Int32 → Int32 → Int32 → Option (Int32 × MI × MJ)) (I : MI) (J : MJ) (x2 : Int32) (x3 : Int32) (x4 : Int32) (x5 : Int32) (x6 : Int32) (x7 : Int32) (x8 : Int32) (x9 : Int32) : Option (Int32 × MI × MJ) := (if (sMST 5) < x9 then (if x4 = (0 : Int32) then some (x5, I, J)
 else (if x4 = (1 : Int32) then some (x6, I, J)
 else some (x7, I, J)))
 else bo2 (f_X1_put 10 I J (5 : Int32) x9) fun I2 J3 =>
 LP_X7_tuned_90 kk67 FU I2 J3 x2 x3 x4 x5 x6 x7 x8 x9 (5 : Int32))
def LP_X7_tuned_67 : Nat → MI → MJ → Int32 → Int32 → Int32 → Int32 → Int32 → Int32 → Int32 → Int32 → Option (Int32 × MI × MJ)
  | 0, _, _, _, _, _, _, _, _, _, _ => none
  | n + 1, I, J, x2, x3, x4, x5, x6, x7, x8, x9 => LB_X7_tuned_67 (fun I J x2 x3 x4 x5 x6 x7 x8 x9 => LP_X7_tuned_67 n I J x2 x3 x4 x5 x6 x7 x8 x9) I J x2 x3 x4 x5 x6 x7 x8 x9
def f_X7_tuned (I : MI) (J : MJ) (a1 : Int32) (a2 : Int32) (a3 : Int32) (a4 : Int32) : Option (Int32 × MI × MJ) := bo1 (f_X7_isRam I J a1) fun r2 =>
 (if r2 = (0 : Int32) then some ((-1 : Int32), I, J)
 else bo1 (f_X7_isMonth a2) fun r4 =>
 (if r4 = (0 : Int32) then some ((-1 : Int32), I, J)
 else bo1 (f_X7_within a3 (0 : Int32) (1 : Int32)) fun r6 =>
 (if r6 = (0 : Int32) then some ((-1 : Int32), I, J)
 else bo1 (f_X7_within a4 (0 : Int32) (2 : Int32)) fun r8 =>
 (if r8 = (0 : Int32) then some ((-1 : Int32), I, J)
 else chk (inb a1 4) (bo2 (f_X1_becomeLike 10 I J (rc a1)) fun I11 J12 =>
 LP_X7_tuned_67 FU I11 J12 a2 a3 a4 (-9 : Int32) (-9 : Int32) (-9 : Int32) (0 : Int32) (1 : Int32))))))
def f_X6_keep (I : MI) (J : MJ) (a1 : Int32) (a2 : Int32) : Option (Int32 × MI × MJ) := (if (I 15 2) < (6 : Int32) then chk (inb (I 15 2) 6) (bnd (w2 I 16 ((I 15 2).toNatClampNeg) a1) fun I2 =>
 chk (inb (I2 15 2) 6) (bnd (w2 I2 17 ((I2 15 2).toNatClampNeg) a2) fun I4 =>
 bnd (w2 I4 15 2 ((I4 15 2) + (1 : Int32))) fun I5 =>
 some (((I5 15 2) - (1 : Int32)), I5, J)))
 else some ((-3 : Int32), I, J))
def f_X7_tune (I : MI) (J : MJ) (a1 : Int32) (a2 : Int32) : Option (Int32 × MI × MJ) := bo1 (f_X7_canBe (4 : Int32) a1) fun r2 =>
 (if r2 = (0 : Int32) then some ((-1 : Int32), I, J)
 else bo1 (f_X7_canBe (5 : Int32) a2) fun r4 =>
 (if r4 = (0 : Int32) then some ((-1 : Int32), I, J)
 else bo3 (f_X6_keep I J a1 a2) fun r8 I6 J7 =>
 some (r8, I6, J7)))
def f_X7_forget (I : MI) (J : MJ) : Option (Int32 × MI × MJ) := bnd ((I 15 2)) fun v1 =>
 bnd (w2 I 15 2 (0 : Int32)) fun I2 =>
 some (v1, I2, J)
def LB_X6_tryOn_67 (kk8 : MI → MJ → Nat → Int32 → Int32 → Option (MI × MJ)) (I : MI) (J : MJ) (c2 : Nat) (x3 : Int32) (x4 : Int32) (s1 : Int32) (s2 : Int32) : Option (MI × MJ) := chk (inb s1 28) (bnd (w2 I 18 s1.toNatClampNeg s2) fun I2 =>
 bo3 (f_X1_upAnHour c2 I2 J) fun r6 I4 J5 =>
 chk (inb ((x3 + x4) + (1 : Int32)) 28) (bnd (w2 I4 19 (((x3 + x4) + (1 : Int32)).toNatClampNeg) r6) fun I8 =>
 bnd (x4 + (1 : Int32)) fun v9 =>
 kk8 I8 J5 c2 x3 v9))
def LB_X6_tryOn_8 (kk8 : MI → MJ → Nat → Int32 → Int32 → Option (MI × MJ)) (I : MI) (J : MJ) (c2 : Nat) (x3 : Int32) (x4 : Int32) : Option (MI × MJ) := (if (I 15 2) ≤ x4 then some (I, J)
 else chk (inb x4 6) (bo2 (f_X1_put c2 I J (4 : Int32) (I 16 x4.toNatClampNeg)) fun I3 J4 =>
 chk (inb x4 6) (bo2 (f_X1_put c2 I3 J4 (5 : Int32) (I3 17 x4.toNatClampNeg)) fun I7 J8 =>
 bo3 (f_X1_stalls c2 I7 J8) fun r12 I10 J11 =>
 (if r12 = (0 : Int32) then bo3 (f_X1_drawsAnHour c2 I10 J11) fun r16 I14 J15 =>
 LB_X6_tryOn_67 kk8 I14 J15 c2 x3 x4 ((x3 + x4) + (1 : Int32)) r16
 else LB_X6_tryOn_67 kk8 I10 J11 c2 x3 x4 ((x3 + x4) + (1 : Int32)) (-9 : Int32)))))
def LP_X6_tryOn_8 : Nat → MI → MJ → Nat → Int32 → Int32 → Option (MI × MJ)
  | 0, _, _, _, _, _ => none
  | n + 1, I, J, c2, x3, x4 => LB_X6_tryOn_8 (fun I J c2 x3 x4 => LP_X6_tryOn_8 n I J c2 x3 x4) I J c2 x3 x4
def f_X6_tryOn (I : MI) (J : MJ) (a1 : Int32) (c2 : Nat) : Option (MI × MJ) := bnd ((a1 * (7 : Int32))) fun v1 =>
 LP_X6_tryOn_8 FU I J c2 v1 (0 : Int32)
def LB_X6_numbers_4 (kk4 : Int32 → Int32 → Int32 → Option Int32) (x0 : Int32) (x1 : Int32) (x2 : Int32) : Option Int32 := (if x0 ≤ x2 then some x1
 else bnd ((x1 * (7 : Int32))) fun v1 =>
 bnd (x2 + (1 : Int32)) fun v2 =>
 kk4 x0 v1 v2)
def LP_X6_numbers_4 : Nat → Int32 → Int32 → Int32 → Option Int32
  | 0, _, _, _ => none
  | n + 1, x0, x1, x2 => LB_X6_numbers_4 (fun x0 x1 x2 => LP_X6_numbers_4 n x0 x1 x2) x0 x1 x2
def f_X6_numbers (a0 : Int32) : Option Int32 := LP_X6_numbers_4 FU a0 (1 : Int32) (0 : Int32)
def LB_X6_upOf_12 (I : MI) (J : MJ) (kk12 : Int32 → Int32 → Int32 → Int32 → Int32 → Option Int32) (x2 : Int32) (x4 : Int32) (x5 : Int32) (x6 : Int32) (x7 : Int32) : Option Int32 := (if x2 ≤ x7 then some x5
 else bnd ((x6 - x6 / (7 : Int32) * (7 : Int32))) fun v1 =>
 bnd ((x6 / (7 : Int32))) fun v2 =>
 bnd (((x7 * (7 : Int32)) + v1)) fun v3 =>
 (if (I 15 2) < v1 then some (-9 : Int32)
 else chk (inb v3 28) ((if (I 18 v3.toNatClampNeg) = (-9 : Int32) then some (-9 : Int32)
 else chk (inb v3 28) ((if (I 18 v3.toNatClampNeg) ≤ x4 then chk (inb v3 28) (bnd ((x4 - (I 18 v3.toNatClampNeg))) fun v7 =>
 chk (inb v3 28) (bnd ((x5 + (I 19 v3.toNatClampNeg))) fun v9 =>
 bnd (x7 + (1 : Int32)) fun v10 =>
 kk12 x2 v7 v9 v2 v10))
 else some (-9 : Int32)))))))
def LP_X6_upOf_12 (I : MI) (J : MJ) : Nat → Int32 → Int32 → Int32 → Int32 → Int32 → Option Int32
  | 0, _, _, _, _, _ => none
  | n + 1, x2, x4, x5, x6, x7 => LB_X6_upOf_12 I J (fun x2 x4 x5 x6 x7 => LP_X6_upOf_12 I J n x2 x4 x5 x6 x7) x2 x4 x5 x6 x7
def f_X6_upOf (I : MI) (J : MJ) (a1 : Int32) (a2 : Int32) (a3 : Int32) : Option Int32 := LP_X6_upOf_12 I J FU a2 a3 (0 : Int32) a1 (0 : Int32)
def LB_X6_pick_18 (kk18 : MI → MJ → Int32 → Int32 → Int32 → Int32 → Option (MI × MJ)) (I : MI) (J : MJ) (x1 : Int32) (x2 : Int32) (x3 : Int32) (x4 : Int32) : Option (MI × MJ) := (if x3 ≤ x4 then some (I, J)
 else bo1 (f_X6_upOf I J x4 x1 x2) fun r2 =>
 (if r2 ≤ (I 15 6) then bnd (x4 + (1 : Int32)) fun v3 =>
 kk18 I J x1 x2 x3 v3
 else bnd (w2 I 15 5 x4) fun I4 =>
 bnd (w2 I4 15 6 r2) fun I5 =>
 bnd (x4 + (1 : Int32)) fun v6 =>
 kk18 I5 J x1 x2 x3 v6))
def LP_X6_pick_18 : Nat → MI → MJ → Int32 → Int32 → Int32 → Int32 → Option (MI × MJ)
  | 0, _, _, _, _, _, _ => none
  | n + 1, I, J, x1, x2, x3, x4 => LB_X6_pick_18 (fun I J x1 x2 x3 x4 => LP_X6_pick_18 n I J x1 x2 x3 x4) I J x1 x2 x3 x4
def f_X6_pick (I : MI) (J : MJ) (a1 : Int32) (a2 : Int32) : Option (MI × MJ) := bnd (w2 I 15 5 (0 : Int32)) fun I1 =>
 bnd (w2 I1 15 6 (0 : Int32)) fun I2 =>
 bo1 (f_X6_numbers a1) fun r4 =>
 LP_X6_pick_18 FU I2 J a1 a2 r4 (1 : Int32)
def LB_X7_side_20 (kk20 : MI → MJ → Int32 → Int32 → Int32 → Option (Int32 × MI × MJ)) (I : MI) (J : MJ) (x1 : Int32) (x2 : Int32) (x3 : Int32) : Option (Int32 × MI × MJ) := (if (I 0 1) ≤ x3 then chk (inb x1 12) (bo2 (f_X6_pick I J (I 0 1) (I 13 x1.toNatClampNeg)) fun I3 J4 =>
 (if x2 = (0 : Int32) then some ((I3 15 5), I3, J4)
 else some ((I3 15 6), I3, J4)))
 else chk (inb x3 4) (bo2 (f_X1_becomeLike 10 I J (rc x3)) fun I7 J8 =>
 bo2 (f_X6_tryOn I7 J8 x3 10) fun I10 J11 =>
 bnd (x3 + (1 : Int32)) fun v12 =>
 kk20 I10 J11 x1 x2 v12))
def LP_X7_side_20 : Nat → MI → MJ → Int32 → Int32 → Int32 → Option (Int32 × MI × MJ)
  | 0, _, _, _, _, _ => none
  | n + 1, I, J, x1, x2, x3 => LB_X7_side_20 (fun I J x1 x2 x3 => LP_X7_side_20 n I J x1 x2 x3) I J x1 x2 x3
def f_X7_side (I : MI) (J : MJ) (a1 : Int32) (a2 : Int32) : Option (Int32 × MI × MJ) := bo1 (f_X7_isMonth a1) fun r2 =>
 (if r2 = (0 : Int32) then some ((-1 : Int32), I, J)
 else bo1 (f_X7_within a2 (0 : Int32) (1 : Int32)) fun r4 =>
 (if r4 = (0 : Int32) then some ((-1 : Int32), I, J)
 else LP_X7_side_20 FU I J a1 a2 (0 : Int32)))
def LB_X6_tellsAll_21 (I : MI) (J : MJ) (kk21 : Int32 → Int32 → Int32 → Option Int32) (x2 : Int32) (x3 : Int32) (x4 : Int32) : Option Int32 := (if x2 ≤ x4 then some (1 : Int32)
 else (if (x3 - x3 / (7 : Int32) * (7 : Int32)) ≤ (I 15 2) then bnd ((x3 / (7 : Int32))) fun v1 =>
 bnd (x4 + (1 : Int32)) fun v2 =>
 kk21 x2 v1 v2
 else some (0 : Int32)))
def LP_X6_tellsAll_21 (I : MI) (J : MJ) : Nat → Int32 → Int32 → Int32 → Option Int32
  | 0, _, _, _ => none
  | n + 1, x2, x3, x4 => LB_X6_tellsAll_21 I J (fun x2 x3 x4 => LP_X6_tellsAll_21 I J n x2 x3 x4) x2 x3 x4
def f_X6_tellsAll (I : MI) (J : MJ) (a1 : Int32) (a2 : Int32) : Option Int32 := bo1 (f_X6_numbers a2) fun r2 =>
 bo1 (f_X7_within a1 (0 : Int32) (r2 - (1 : Int32))) fun r4 =>
 (if r4 = (0 : Int32) then some (0 : Int32)
 else LP_X6_tellsAll_21 I J FU a2 a1 (0 : Int32))
def f_X6_giveTo (I : MI) (J : MJ) (c1 : Nat) (a2 : Int32) : Option (MI × MJ) := bo1 (f_X7_within a2 (1 : Int32) (I 15 2)) fun r2 =>
 (if r2 = (0 : Int32) then bo2 (f_X1_put c1 I J (12 : Int32) (0 : Int32)) fun I15 J16 =>
 some (I15, J16)
 else chk (inb (a2 - (1 : Int32)) 6) (bo2 (f_X1_put c1 I J (4 : Int32) (I 16 (a2 - (1 : Int32)).toNatClampNeg)) fun I5 J6 =>
 chk (inb (a2 - (1 : Int32)) 6) (bo2 (f_X1_put c1 I5 J6 (5 : Int32) (I5 17 (a2 - (1 : Int32)).toNatClampNeg)) fun I9 J10 =>
 bo2 (f_X1_put c1 I9 J10 (12 : Int32) (1 : Int32)) fun I12 J13 =>
 some (I12, J13))))
def LB_X7_take_21 (kk21 : MI → MJ → Int32 → Int32 → Option (Int32 × MI × MJ)) (I : MI) (J : MJ) (x2 : Int32) (x3 : Int32) : Option (Int32 × MI × MJ) := (if (I 0 1) ≤ x3 then some ((1 : Int32), I, J)
 else chk (inb x3 4) (bo2 (f_X6_giveTo I J (rc x3) (x2 - x2 / (7 : Int32) * (7 : Int32))) fun I3 J4 =>
 bnd ((x2 / (7 : Int32))) fun v5 =>
 bnd (x3 + (1 : Int32)) fun v6 =>
 kk21 I3 J4 v5 v6))
def LP_X7_take_21 : Nat → MI → MJ → Int32 → Int32 → Option (Int32 × MI × MJ)
  | 0, _, _, _, _ => none
  | n + 1, I, J, x2, x3 => LB_X7_take_21 (fun I J x2 x3 => LP_X7_take_21 n I J x2 x3) I J x2 x3
def f_X7_take (I : MI) (J : MJ) (a1 : Int32) : Option (Int32 × MI × MJ) := bo1 (f_X6_tellsAll I J a1 (I 0 1)) fun r2 =>
 (if r2 = (0 : Int32) then some ((-1 : Int32), I, J)
 else LP_X7_take_21 FU I J a1 (0 : Int32))
def f_X7_frost (I : MI) (J : MJ) (a1 : Int32) (a2 : Int32) : Option (Int32 × MI × MJ) := bo1 (f_X7_isMonth a1) fun r2 =>
 (if r2 = (0 : Int32) then some ((-1 : Int32), I, J)
 else bo1 (f_X7_within a2 (0 : Int32) (23 : Int32)) fun r4 =>
 (if r4 = (0 : Int32) then some ((-1 : Int32), I, J)
 else chk (inb a1 12) (bnd ((I 14 a1.toNatClampNeg)) fun v6 =>
 chk (inb a1 12) (bnd (w2 I 14 a1.toNatClampNeg a2) fun I8 =>
 some (v6, I8, J)))))
def f_X7_silence (I : MI) (J : MJ) (a1 : Int32) (a2 : Int32) : Option (Int32 × MI × MJ) := bo1 (f_X7_within a1 (0 : Int32) (24 : Int32)) fun r2 =>
 (if r2 = (0 : Int32) then some ((-1 : Int32), I, J)
 else bo1 (f_X7_within a2 a1 (24 : Int32)) fun r4 =>
 (if r4 = (0 : Int32) then some ((-1 : Int32), I, J)
 else bnd (w2 I 12 2 a1) fun I5 =>
 bnd (w2 I5 12 3 a2) fun I6 =>
 some ((1 : Int32), I6, J)))
def f_X5_changeRoom (I : MI) (J : MJ) (a1 : Int32) : Option (Int32 × MI × MJ) := bo1 (f_X7_within a1 (100 : Int32) (1000000 : Int32)) fun r2 =>
 (if r2 = (0 : Int32) then some ((-1 : Int32), I, J)
 else (if (I 24 1) ≤ a1 then bnd ((I 24 0)) fun v3 =>
 bnd (w2 I 24 0 a1) fun I4 =>
 some (v3, I4, J)
 else some ((-1 : Int32), I, J)))
def f_X5_changeHeld (I : MI) (J : MJ) (a1 : Int32) : Option (Int32 × MI × MJ) := bo1 (f_X7_within a1 (0 : Int32) (I 24 0)) fun r2 =>
 (if r2 = (0 : Int32) then some ((-1 : Int32), I, J)
 else bnd ((I 24 1)) fun v3 =>
 bnd (w2 I 24 1 a1) fun I4 =>
 some (v3, I4, J))
def f_X7_tank (I : MI) (J : MJ) (a1 : Int32) (a2 : Int32) : Option (Int32 × MI × MJ) := (if a1 = (0 : Int32) then bo3 (f_X5_changeRoom I J a2) fun r8 I6 J7 =>
 some (r8, I6, J7)
 else (if a1 = (1 : Int32) then bo3 (f_X5_changeHeld I J a2) fun r4 I2 J3 =>
 some (r4, I2, J3)
 else some ((-1 : Int32), I, J)))
def LB_X3_write_20 (kk20 : MI → MJ → Int64 → Int32 → Option (Int32 × MI × MJ)) (I : MI) (J : MJ) (y1 : Int64) (x4 : Int32) : Option (Int32 × MI × MJ) := (if x4 < (0 : Int32) then some ((I 20 1), I, J)
 else chk (inb (I 20 1) 150) (bnd (w2 I 21 ((I 20 1).toNatClampNeg) (vp_nar .byte (((y1 >>> (((8 : Int32) * x4).toInt64 &&& 63)).toInt32).toInt8.toInt32))) fun I2 =>
 bnd (w2 I2 20 1 ((I2 20 1) + (1 : Int32))) fun I3 =>
 bnd (x4 + (-1 : Int32)) fun v4 =>
 kk20 I3 J y1 v4))
def LP_X3_write_20 : Nat → MI → MJ → Int64 → Int32 → Option (Int32 × MI × MJ)
  | 0, _, _, _, _ => none
  | n + 1, I, J, y1, x4 => LB_X3_write_20 (fun I J y1 x4 => LP_X3_write_20 n I J y1 x4) I J y1 x4
def f_X3_write (I : MI) (J : MJ) (a1 : Int64) (a3 : Int32) : Option (Int32 × MI × MJ) := (if ((I 20 1) + a3) ≤ (150 : Int32) then bnd ((a3 - (1 : Int32))) fun v1 =>
 LP_X3_write_20 FU I J a1 v1
 else some ((-3 : Int32), I, J))
def f_X7_type (I : MI) (J : MJ) (a1 : Int64) (a3 : Int32) : Option (Int32 × MI × MJ) := bo1 (f_X7_within a3 (1 : Int32) (8 : Int32)) fun r2 =>
 (if r2 = (0 : Int32) then some ((-1 : Int32), I, J)
 else bo3 (f_X3_write I J a1 a3) fun r6 I4 J5 =>
 some (r6, I4, J5))
def f_X7_clear (I : MI) (J : MJ) : Option (Int32 × MI × MJ) := bnd ((I 20 1)) fun v1 =>
 bnd (w2 I 20 1 (0 : Int32)) fun I2 =>
 some (v1, I2, J)
def f_X3_readSign (I : MI) (J : MJ) (a1 : Int32) : Option (MI × MJ) := (if (I 20 6) = (0 : Int32) then (if (I 20 1) ≤ (I 20 5) then bnd (w2 I 20 6 (1 : Int32)) fun I1 =>
 some (I1, J)
 else chk (inb (I 20 5) 150) ((if (I 21 (I 20 5).toNatClampNeg) = a1 then bnd (w2 I 20 5 ((I 20 5) + (1 : Int32))) fun I4 =>
 some (I4, J)
 else bnd (w2 I 20 6 (1 : Int32)) fun I3 =>
 some (I3, J))))
 else some (I, J))
def f_X3_digitHere (I : MI) (J : MJ) : Option Int32 := (if (I 20 1) ≤ (I 20 5) then some (-9 : Int32)
 else chk (inb (I 20 5) 150) ((if (I 21 (I 20 5).toNatClampNeg) < (48 : Int32) then some (-9 : Int32)
 else chk (inb (I 20 5) 150) ((if (I 21 (I 20 5).toNatClampNeg) ≤ (57 : Int32) then chk (inb (I 20 5) 150) (some ((I 21 (I 20 5).toNatClampNeg) - (48 : Int32)))
 else some (-9 : Int32))))))
def LB_X3_readNumber_48 (kk48 : MI → MJ → Int32 → Int32 → Option (Int32 × MI × MJ)) (I : MI) (J : MJ) (x2 : Int32) (x3 : Int32) : Option (Int32 × MI × MJ) := (if (I 20 1) ≤ (I 20 5) then some (x3, I, J)
 else (if x3 ≤ (0 : Int32) then some (x3, I, J)
 else bo1 (f_X3_digitHere I J) fun r2 =>
 (if (0 : Int32) ≤ r2 then bnd ((((10 : Int32) * x3) + r2)) fun v3 =>
 (if v3 ≤ x2 then bnd (w2 I 20 5 ((I 20 5) + (1 : Int32))) fun I4 =>
 kk48 I4 J x2 v3
 else bnd (w2 I 20 6 (1 : Int32)) fun I5 =>
 some ((0 : Int32), I5, J))
 else some (x3, I, J))))
def LP_X3_readNumber_48 : Nat → MI → MJ → Int32 → Int32 → Option (Int32 × MI × MJ)
  | 0, _, _, _, _ => none
  | n + 1, I, J, x2, x3 => LB_X3_readNumber_48 (fun I J x2 x3 => LP_X3_readNumber_48 n I J x2 x3) I J x2 x3
def f_X3_readNumber (I : MI) (J : MJ) (a1 : Int32) (a2 : Int32) : Option (Int32 × MI × MJ) := (if (I 20 6) = (0 : Int32) then bo1 (f_X3_digitHere I J) fun r2 =>
 (if r2 < (0 : Int32) then bnd (w2 I 20 6 (1 : Int32)) fun I3 =>
 some ((0 : Int32), I3, J)
 else (if a2 < r2 then bnd (w2 I 20 6 (1 : Int32)) fun I4 =>
 some ((0 : Int32), I4, J)
 else (if r2 = (0 : Int32) then (if a1 ≤ (0 : Int32) then bnd (w2 I 20 5 ((I 20 5) + (1 : Int32))) fun I6 =>
 LP_X3_readNumber_48 FU I6 J a2 r2
 else bnd (w2 I 20 6 (1 : Int32)) fun I7 =>
 some ((0 : Int32), I7, J))
 else bnd (w2 I 20 5 ((I 20 5) + (1 : Int32))) fun I5 =>
 LP_X3_readNumber_48 FU I5 J a2 r2)))
 else some ((0 : Int32), I, J))
def LB_X3_readItem_93 (kk93 : MI → MJ → Int32 → Int32 → Int32 → Int32 → Option (MI × MJ)) (I : MI) (J : MJ) (x1 : Int32) (x3 : Int32) (x4 : Int32) (x5 : Int32) : Option (MI × MJ) := (if x3 ≤ x5 then some (I, J)
 else (if (I 20 6) = (0 : Int32) then chk (inb ((x1 * (24 : Int32)) + x5) 120) (chk (inb ((x1 * (24 : Int32)) + x5) 120) (bnd (w2 I 23 (((x1 * (24 : Int32)) + x5).toNatClampNeg) ((I 23 ((x1 * (24 : Int32)) + x5).toNatClampNeg) + x4)) fun I3 =>
 bnd (x5 + (1 : Int32)) fun v4 =>
 kk93 I3 J x1 x3 x4 v4))
 else some (I, J)))
def LP_X3_readItem_93 : Nat → MI → MJ → Int32 → Int32 → Int32 → Int32 → Option (MI × MJ)
  | 0, _, _, _, _, _, _ => none
  | n + 1, I, J, x1, x3, x4, x5 => LB_X3_readItem_93 (fun I J x1 x3 x4 x5 => LP_X3_readItem_93 n I J x1 x3 x4 x5) I J x1 x3 x4 x5
def LB_X3_readItem_68 (I : MI) (J : MJ) (x1 : Int32) (x2 : Int32) (x3 : Int32) : Option (MI × MJ) := bo2 (f_X3_readSign I J (58 : Int32)) fun I2 J3 =>
 bo3 (f_X3_readNumber I2 J3 (1 : Int32) (9999 : Int32)) fun r7 I5 J6 =>
 bo2 (f_X3_readSign I5 J6 (59 : Int32)) fun I9 J10 =>
 LP_X3_readItem_93 FU I9 J10 x1 x3 r7 x2
def f_X3_readItem (I : MI) (J : MJ) : Option (MI × MJ) := bo2 (f_X3_readSign I J (102 : Int32)) fun I2 J3 =>
 bo3 (f_X3_readNumber I2 J3 (0 : Int32) (4 : Int32)) fun r7 I5 J6 =>
 bo2 (f_X3_readSign I5 J6 (32 : Int32)) fun I9 J10 =>
 bo3 (f_X3_readNumber I9 J10 (0 : Int32) (23 : Int32)) fun r14 I12 J13 =>
 bo2 (f_X3_readSign I12 J13 (45 : Int32)) fun I16 J17 =>
 bo3 (f_X3_readNumber I16 J17 (1 : Int32) (24 : Int32)) fun r21 I19 J20 =>
 (if (I19 20 6) = (0 : Int32) then (if r14 < r21 then LB_X3_readItem_68 I19 J20 r7 r14 r21
 else bnd (w2 I19 20 6 (1 : Int32)) fun I22 =>
 bnd (w2 I22 20 5 ((I22 20 5) - (1 : Int32))) fun I23 =>
 LB_X3_readItem_68 I23 J20 r7 r14 r21)
 else LB_X3_readItem_68 I19 J20 r7 r14 r21)
def LB_X3_tellAnew_54 (I : MI) (J : MJ) (x1 : Int32) : Option (Int32 × MI × MJ) := (if (I 20 6) = (0 : Int32) then (if (I 20 1) ≤ (I 20 5) then bnd (w1 I 22 (va_cpy (I 23) (I 22) (0 : Int32).toNatClampNeg (0 : Int32).toNatClampNeg (120 : Int32).toNatClampNeg)) fun I1 =>
 bnd (w2 I1 20 2 x1) fun I2 =>
 bnd (w2 I2 20 1 (0 : Int32)) fun I3 =>
 some (x1, I3, J)
 else some (((-10 : Int32) - (I 20 5)), I, J))
 else some (((-10 : Int32) - (I 20 5)), I, J))
def LB_X3_tellAnew_20 (kk20 : MI → MJ → Int32 → Option (Int32 × MI × MJ)) (I : MI) (J : MJ) (x1 : Int32) : Option (Int32 × MI × MJ) := (if (12 : Int32) ≤ x1 then LB_X3_tellAnew_54 I J x1
 else (if (I 20 1) ≤ (I 20 5) then LB_X3_tellAnew_54 I J x1
 else (if (I 20 6) = (0 : Int32) then bo2 (f_X3_readItem I J) fun I2 J3 =>
 bnd (x1 + (1 : Int32)) fun v4 =>
 kk20 I2 J3 v4
 else LB_X3_tellAnew_54 I J x1)))
def LP_X3_tellAnew_20 : Nat → MI → MJ → Int32 → Option (Int32 × MI × MJ)
  | 0, _, _, _ => none
  | n + 1, I, J, x1 => LB_X3_tellAnew_20 (fun I J x1 => LP_X3_tellAnew_20 n I J x1) I J x1
def f_X3_tellAnew (I : MI) (J : MJ) : Option (Int32 × MI × MJ) := bnd (w1 I 23 (fl (0 : Int32) 120 (I 23))) fun I1 =>
 bnd (w2 I1 20 5 (0 : Int32)) fun I2 =>
 bnd (w2 I2 20 6 (0 : Int32)) fun I3 =>
 LP_X3_tellAnew_20 FU I3 J (0 : Int32)
def f_X7_rights (I : MI) (J : MJ) : Option (Int32 × MI × MJ) := bo3 (f_X3_tellAnew I J) fun r4 I2 J3 =>
 some (r4, I2, J3)
def f_X3_litresOf (I : MI) (J : MJ) (a1 : Int32) (a2 : Int32) : Option Int32 := chk (inb ((a1 * (24 : Int32)) + a2) 120) (some (I 22 ((a1 * (24 : Int32)) + a2).toNatClampNeg))
def f_X7_right (I : MI) (J : MJ) (a1 : Int32) (a2 : Int32) : Option Int32 := bo1 (f_X7_within a1 (0 : Int32) (4 : Int32)) fun r2 =>
 (if r2 = (0 : Int32) then some (-1 : Int32)
 else bo1 (f_X7_within a2 (0 : Int32) (23 : Int32)) fun r4 =>
 (if r4 = (0 : Int32) then some (-1 : Int32)
 else bo1 (f_X3_litresOf I J a1 a2) fun r6 =>
 some r6))
def LB_X4_stop_21 (I : MI) (J : MJ) (c1 : Nat) (x2 : Int32) (x3 : Int32) (s0 : Int32) : Option Int32 := (if s0 = (0 : Int32) then chk (inb x2 12) ((if (I 14 x2.toNatClampNeg) ≤ x3 then some (0 : Int32)
 else bo1 (f_X1_trait c1 I J (5 : Int32)) fun r3 =>
 (if (3 : Int32) ≤ r3 then some (0 : Int32)
 else some (1 : Int32))))
 else some (1 : Int32))
def LB_X4_stop_20 (I : MI) (J : MJ) (c1 : Nat) (x2 : Int32) (x3 : Int32) : Option Int32 := LB_X4_stop_21 I J c1 x2 x3 (0 : Int32)
def f_X4_stop (I : MI) (J : MJ) (c1 : Nat) (a2 : Int32) (a3 : Int32) : Option Int32 := (if a3 < (I 12 2) then LB_X4_stop_20 I J c1 a2 a3
 else (if (I 12 3) ≤ a3 then LB_X4_stop_20 I J c1 a2 a3
 else LB_X4_stop_21 I J c1 a2 a3 (1 : Int32)))
def f_X5_receive (I : MI) (J : MJ) (a1 : Int32) (a2 : Int32) : Option (MI × MJ) := bnd (w2 I 24 1 ((I 24 1) + a1)) fun I1 =>
 bnd (w2J J 24 2 ((J 24 2) + a1.toInt64)) fun J2 =>
 bnd (w2J J2 24 3 ((J2 24 3) + a2.toInt64)) fun J3 =>
 some (I1, J3)
def f_X1_loseAir (c : Nat) (I : MI) (J : MJ) : Option (MI × MJ) := bo3 (f_X1_stalls c I J) fun r4 I2 J3 =>
 (if r4 = (0 : Int32) then bnd ((imax (((I2 (c + 1) 6) - (1 : Int32)) - (I2 (c + 1) 9)) (0 : Int32))) fun v5 =>
 bo2 (f_X1_put c I2 J3 (6 : Int32) (imin (v5 + (I2 (c + 1) 11)) (sMST 6))) fun I7 J8 =>
 some (I7, J8)
 else some (I2, J3))
def f_X5_spillOver (I : MI) (J : MJ) : Option (MI × MJ) := bnd ((imax ((I 24 1) - (I 24 0)) (0 : Int32))) fun v1 =>
 bnd (w2 I 24 1 ((I 24 1) - v1)) fun I2 =>
 bnd (w2J J 24 4 ((J 24 4) + v1.toInt64)) fun J3 =>
 some (I2, J3)
def LB_X7_runRams_15 (kk15 : MI → MJ → Int32 → Int32 → Option (MI × MJ)) (I : MI) (J : MJ) (x1 : Int32) (x2 : Int32) : Option (MI × MJ) := (if (I 0 1) ≤ x2 then bo2 (f_X5_spillOver I J) fun I2 J3 =>
 some (I2, J3)
 else chk (inb x2 4) (bo1 (f_X1_trait (rc x2) I J (12 : Int32)) fun r6 =>
 (if r6 = (0 : Int32) then bnd (x2 + (1 : Int32)) fun v7 =>
 kk15 I J x1 v7
 else bo1 (f_X4_stop I J (rc x2) (I 0 9) (I 0 11)) fun r9 =>
 (if r9 = (0 : Int32) then bo3 (f_X1_upAnHour (rc x2) I J) fun r13 I11 J12 =>
 bo3 (f_X1_wasteAnHour (rc x2) I11 J12) fun r17 I15 J16 =>
 (if (r13 + r17) ≤ x1 then bnd ((x1 - (r13 + r17))) fun v18 =>
 bo2 (f_X5_receive I15 J16 r13 r17) fun I20 J21 =>
 bo2 (f_X1_loseAir (rc x2) I20 J21) fun I23 J24 =>
 bnd (x2 + (1 : Int32)) fun v25 =>
 kk15 I23 J24 v18 v25
 else bnd (x2 + (1 : Int32)) fun v26 =>
 kk15 I15 J16 x1 v26)
 else bnd (x2 + (1 : Int32)) fun v27 =>
 kk15 I J x1 v27))))
def LP_X7_runRams_15 : Nat → MI → MJ → Int32 → Int32 → Option (MI × MJ)
  | 0, _, _, _, _ => none
  | n + 1, I, J, x1, x2 => LB_X7_runRams_15 (fun I J x1 x2 => LP_X7_runRams_15 n I J x1 x2) I J x1 x2
def f_X7_runRams (I : MI) (J : MJ) : Option (MI × MJ) := chk (inb (I 0 9) 12) (bnd ((I 13 (I 0 9).toNatClampNeg)) fun v2 =>
 LP_X7_runRams_15 FU I J v2 (0 : Int32))
def f_X5_serve (I : MI) (J : MJ) (a1 : Int32) (a2 : Int32) : Option (MI × MJ) := bnd ((imin a2 (I 24 1))) fun v1 =>
 bnd (w2 I 24 1 ((I 24 1) - v1)) fun I2 =>
 bnd (w2J J 24 5 ((J 24 5) + v1.toInt64)) fun J3 =>
 bnd (w2J J3 24 6 ((J3 24 6) + ((a2 - v1).toInt64))) fun J4 =>
 chk (inb a1 5) (chk (inb a1 5) (bnd (w2J J4 25 a1.toNatClampNeg ((J4 25 a1.toNatClampNeg) + ((a2 - v1).toInt64))) fun J7 =>
 some (I2, J7)))
def LB_X7_goToNextHour_34 (I : MI) (J : MJ) : Option (MI × MJ) := (if (I 0 10) = (30 : Int32) then bnd (w2 I 0 10 (0 : Int32)) fun I1 =>
 bnd (w2 I1 0 9 (((I1 0 9) + (1 : Int32)) - ((I1 0 9) + (1 : Int32)) / (12 : Int32) * (12 : Int32))) fun I2 =>
 some (I2, J)
 else some (I, J))
def f_X7_goToNextHour (I : MI) (J : MJ) : Option (MI × MJ) := bnd (w2 I 0 11 ((I 0 11) + (1 : Int32))) fun I1 =>
 (if (I1 0 11) = (24 : Int32) then bnd (w2 I1 0 11 (0 : Int32)) fun I2 =>
 bnd (w2 I2 0 10 ((I2 0 10) + (1 : Int32))) fun I3 =>
 LB_X7_goToNextHour_34 I3 J
 else LB_X7_goToNextHour_34 I1 J)
def LB_X7_hours_37 (kk24 : MI → MJ → Int32 → Int64 → Int32 → Option (Int32 × MI × MJ)) (kk37 : MI → MJ → Int32 → Int64 → Int32 → Int32 → Option (Int32 × MI × MJ)) (I : MI) (J : MJ) (x1 : Int32) (y2 : Int64) (x4 : Int32) (x5 : Int32) : Option (Int32 × MI × MJ) := (if (5 : Int32) ≤ x5 then bo2 (f_X7_goToNextHour I J) fun I2 J3 =>
 bnd (x4 + (1 : Int32)) fun v4 =>
 kk24 I2 J3 x1 y2 v4
 else bo1 (f_X3_litresOf I J x5 (I 0 11)) fun r6 =>
 bo2 (f_X5_serve I J x5 r6) fun I8 J9 =>
 bnd (x5 + (1 : Int32)) fun v10 =>
 kk37 I8 J9 x1 y2 x4 v10)
def LP_X7_hours_37 (kk24 : MI → MJ → Int32 → Int64 → Int32 → Option (Int32 × MI × MJ)) : Nat → MI → MJ → Int32 → Int64 → Int32 → Int32 → Option (Int32 × MI × MJ)
  | 0, _, _, _, _, _, _ => none
  | n + 1, I, J, x1, y2, x4, x5 => LB_X7_hours_37 kk24 (fun I J x1 y2 x4 x5 => LP_X7_hours_37 kk24 n I J x1 y2 x4 x5) I J x1 y2 x4 x5
def LB_X7_hours_24 (kk24 : MI → MJ → Int32 → Int64 → Int32 → Option (Int32 × MI × MJ)) (I : MI) (J : MJ) (x1 : Int32) (y2 : Int64) (x4 : Int32) : Option (Int32 × MI × MJ) := (if x1 ≤ x4 then some (((J 24 6) - y2).toInt32, I, J)
 else bo2 (f_X7_runRams I J) fun I2 J3 =>
 LP_X7_hours_37 kk24 FU I2 J3 x1 y2 x4 (0 : Int32))
def LP_X7_hours_24 : Nat → MI → MJ → Int32 → Int64 → Int32 → Option (Int32 × MI × MJ)
  | 0, _, _, _, _, _ => none
  | n + 1, I, J, x1, y2, x4 => LB_X7_hours_24 (fun I J x1 y2 x4 => LP_X7_hours_24 n I J x1 y2 x4) I J x1 y2 x4
def f_X7_hours (I : MI) (J : MJ) (a1 : Int32) : Option (Int32 × MI × MJ) := bo1 (f_X7_within a1 (1 : Int32) (720 : Int32)) fun r2 =>
 (if r2 = (0 : Int32) then some ((-1 : Int32), I, J)
 else bnd ((J 24 6)) fun v3 =>
 LP_X7_hours_24 FU I J a1 v3 (0 : Int32))
def f_X7_book (I : MI) (J : MJ) (a1 : Int32) : Option Int64 := (if a1 = (0 : Int32) then some (J 24 2)
 else (if a1 = (1 : Int32) then some (J 24 3)
 else (if a1 = (2 : Int32) then some (J 24 4)
 else (if a1 = (3 : Int32) then some (J 24 5)
 else (if a1 = (4 : Int32) then some (J 24 6)
 else (if a1 = (5 : Int32) then some ((I 24 1).toInt64)
 else bo1 (f_X7_within a1 (6 : Int32) (10 : Int32)) fun r2 =>
 (if r2 = (0 : Int32) then some (-1 : Int64)
 else chk (inb (a1 - (6 : Int32)) 5) (some (J 25 (a1 - (6 : Int32)).toNatClampNeg)))))))))
def f_X7_isReadable (a0 : Int32) : Option Int32 := (if a0 = (-9 : Int32) then some (1 : Int32)
 else bo1 (f_X7_within a0 (0 : Int32) (1000000 : Int32)) fun r2 =>
 (if r2 = (0 : Int32) then some (0 : Int32)
 else some (1 : Int32)))
def f_X2_keep (I : MI) (J : MJ) (a1 : Int32) (a2 : Int32) (a3 : Int32) : Option (Int32 × MI × MJ) := (if (I 26 3) < (12 : Int32) then chk (inb (I 26 3) 12) (bnd (w2 I 27 ((I 26 3).toNatClampNeg) a1) fun I2 =>
 chk (inb (I2 26 3) 12) (bnd (w2 I2 28 ((I2 26 3).toNatClampNeg) a2) fun I4 =>
 chk (inb (I4 26 3) 12) (bnd (w2 I4 29 ((I4 26 3).toNatClampNeg) a3) fun I6 =>
 bnd (w2 I6 26 3 ((I6 26 3) + (1 : Int32))) fun I7 =>
 some ((I7 26 3), I7, J))))
 else some ((-3 : Int32), I, J))
def LB_X7_read_31 (I : MI) (J : MJ) (x1 : Int32) (x2 : Int32) (x3 : Int32) (s0 : Int32) : Option (Int32 × MI × MJ) := bo1 (f_X7_isRam I J x1) fun r2 =>
 (if r2 = (0 : Int32) then some ((-1 : Int32), I, J)
 else (if s0 = (0 : Int32) then some ((-1 : Int32), I, J)
 else bo3 (f_X2_keep I J x1 x2 x3) fun r6 I4 J5 =>
 some (r6, I4, J5)))
def LB_X7_read_30 (I : MI) (J : MJ) (x1 : Int32) (x2 : Int32) (x3 : Int32) : Option (Int32 × MI × MJ) := LB_X7_read_31 I J x1 x2 x3 (0 : Int32)
def LB_X7_read_26 (I : MI) (J : MJ) (x1 : Int32) (x2 : Int32) (x3 : Int32) : Option (Int32 × MI × MJ) := LB_X7_read_31 I J x1 x2 x3 (1 : Int32)
def f_X7_read (I : MI) (J : MJ) (a1 : Int32) (a2 : Int32) (a3 : Int32) : Option (Int32 × MI × MJ) := bo1 (f_X7_isReadable a2) fun r2 =>
 (if r2 = (0 : Int32) then LB_X7_read_30 I J a1 a2 a3
 else bo1 (f_X7_isReadable a3) fun r4 =>
 (if r4 = (0 : Int32) then LB_X7_read_30 I J a1 a2 a3
 else (if a2 = (-9 : Int32) then (if a3 = (-9 : Int32) then LB_X7_read_30 I J a1 a2 a3
 else LB_X7_read_26 I J a1 a2 a3)
 else LB_X7_read_26 I J a1 a2 a3)))
def f_X7_wipe (I : MI) (J : MJ) : Option (Int32 × MI × MJ) := bnd ((I 26 3)) fun v1 =>
 bnd (w2 I 26 3 (0 : Int32)) fun I2 =>
 some (v1, I2, J)
def LB_X7_tolerance_33 (I : MI) (J : MJ) (x1 : Int32) (x2 : Int32) : Option (Int32 × MI × MJ) := (if x1 = (1 : Int32) then bo1 (f_X7_within x2 (0 : Int32) (50 : Int32)) fun r2 =>
 (if r2 = (0 : Int32) then some ((-1 : Int32), I, J)
 else bnd ((I 26 5)) fun v3 =>
 bnd (w2 I 26 5 x2) fun I4 =>
 some (v3, I4, J))
 else some ((-1 : Int32), I, J))
def f_X7_tolerance (I : MI) (J : MJ) (a1 : Int32) (a2 : Int32) : Option (Int32 × MI × MJ) := (if a1 = (0 : Int32) then bo1 (f_X7_within a2 (0 : Int32) (500 : Int32)) fun r2 =>
 (if r2 = (0 : Int32) then LB_X7_tolerance_33 I J a1 a2
 else bnd ((I 26 4)) fun v3 =>
 bnd (w2 I 26 4 a2) fun I4 =>
 some (v3, I4, J))
 else LB_X7_tolerance_33 I J a1 a2)
def f_X1_suffer (c : Nat) (I : MI) (J : MJ) (a1 : Int32) : Option (MI × MJ) := bo2 (f_X1_put c I J (7 : Int32) (a1 &&& (3 : Int32))) fun I2 J3 =>
 bo2 (f_X1_put c I2 J3 (8 : Int32) ((a1 >>> ((2 : Int32) &&& 31)) &&& (3 : Int32))) fun I5 J6 =>
 bo2 (f_X1_put c I5 J6 (9 : Int32) ((a1 >>> ((4 : Int32) &&& 31)) &&& (3 : Int32))) fun I8 J9 =>
 chk (inb ((a1 >>> ((6 : Int32) &&& 31)) &&& (3 : Int32)) 4) (bo2 (f_X1_put c I8 J9 (6 : Int32) (sAIR ((a1 >>> ((6 : Int32) &&& 31)) &&& (3 : Int32)).toNatClampNeg)) fun I12 J13 =>
 some (I12, J13))
def f_X2_isNearBeats (I : MI) (J : MJ) (a1 : Int32) (a2 : Int32) : Option Int32 := chk (inb a1 12) ((if (I 28 a1.toNatClampNeg) = (-9 : Int32) then some (1 : Int32)
 else chk (inb a1 12) ((if (I 26 4) < (iabs (a2 - (I 28 a1.toNatClampNeg))) then some (0 : Int32)
 else some (1 : Int32)))))
def f_X2_isNearUp (I : MI) (J : MJ) (a1 : Int32) (a2 : Int32) : Option Int32 := chk (inb a1 12) ((if (I 29 a1.toNatClampNeg) = (-9 : Int32) then some (1 : Int32)
 else chk (inb a1 12) (chk (inb a1 12) ((if (((I 29 a1.toNatClampNeg) * (I 26 5)) / (100 : Int32)) < (iabs (a2 - (I 29 a1.toNatClampNeg))) then some (0 : Int32)
 else some (1 : Int32))))))
def LB_X2_agreeWith_14 (kk14 : MI → MJ → Int32 → Int32 → Int32 → Int32 → Option (Int32 × MI × MJ)) (I : MI) (J : MJ) (x1 : Int32) (x3 : Int32) (x4 : Int32) (x5 : Int32) : Option (Int32 × MI × MJ) := (if (I 26 3) ≤ x5 then some ((1 : Int32), I, J)
 else chk (inb x5 12) ((if (I 27 x5.toNatClampNeg) = x1 then bo1 (f_X2_isNearBeats I J x5 x3) fun r4 =>
 (if r4 = (0 : Int32) then some ((0 : Int32), I, J)
 else bo1 (f_X2_isNearUp I J x5 x4) fun r6 =>
 (if r6 = (0 : Int32) then some ((0 : Int32), I, J)
 else bnd (x5 + (1 : Int32)) fun v7 =>
 kk14 I J x1 x3 x4 v7))
 else bnd (x5 + (1 : Int32)) fun v2 =>
 kk14 I J x1 x3 x4 v2)))
def LP_X2_agreeWith_14 : Nat → MI → MJ → Int32 → Int32 → Int32 → Int32 → Option (Int32 × MI × MJ)
  | 0, _, _, _, _, _, _ => none
  | n + 1, I, J, x1, x3, x4, x5 => LB_X2_agreeWith_14 (fun I J x1 x3 x4 x5 => LP_X2_agreeWith_14 n I J x1 x3 x4 x5) I J x1 x3 x4 x5
def f_X2_agreeWith (I : MI) (J : MJ) (a1 : Int32) (c2 : Nat) : Option (Int32 × MI × MJ) := bo3 (f_X1_beatsAnHour c2 I J) fun r4 I2 J3 =>
 bo3 (f_X1_upAnHour c2 I2 J3) fun r8 I6 J7 =>
 LP_X2_agreeWith_14 FU I6 J7 a1 r4 r8 (0 : Int32)
def f_X7_fits (I : MI) (J : MJ) (a1 : Int32) (a2 : Int32) : Option (Int32 × MI × MJ) := bo1 (f_X7_isRam I J a1) fun r2 =>
 (if r2 = (0 : Int32) then some ((-1 : Int32), I, J)
 else bo1 (f_X7_within a2 (0 : Int32) (255 : Int32)) fun r4 =>
 (if r4 = (0 : Int32) then some ((-1 : Int32), I, J)
 else chk (inb a1 4) (bo2 (f_X1_becomeLike 10 I J (rc a1)) fun I7 J8 =>
 bo2 (f_X1_suffer 10 I7 J8 a2) fun I10 J11 =>
 bo3 (f_X2_agreeWith I10 J11 a1 10) fun r15 I13 J14 =>
 (if r15 = (0 : Int32) then some ((0 : Int32), I13, J14)
 else some ((1 : Int32), I13, J14)))))
def f_X0_begin (I : MI) (J : MJ) : Option (MI × MJ) := bnd (w1 I 31 (fl (0 : Int32) 16 (I 31))) fun I1 =>
 bnd (w2 I1 30 1 (0 : Int32)) fun I2 =>
 bnd (w2 I2 30 2 (-9 : Int32)) fun I3 =>
 some (I3, J)
def LB_X0_admit_34 (kk34 : MI → MJ → Int32 → Int32 → Option (MI × MJ)) (I : MI) (J : MJ) (x1 : Int32) (x2 : Int32) : Option (MI × MJ) := (if (4 : Int32) ≤ x2 then some (I, J)
 else chk (inb ((x2 * (4 : Int32)) + ((x1 >>> (((2 : Int32) * x2) &&& 31)) &&& (3 : Int32))) 16) (chk (inb ((x2 * (4 : Int32)) + ((x1 >>> (((2 : Int32) * x2) &&& 31)) &&& (3 : Int32))) 16) (bnd (w2 I 31 (((x2 * (4 : Int32)) + ((x1 >>> (((2 : Int32) * x2) &&& 31)) &&& (3 : Int32))).toNatClampNeg) ((I 31 ((x2 * (4 : Int32)) + ((x1 >>> (((2 : Int32) * x2) &&& 31)) &&& (3 : Int32))).toNatClampNeg) + (1 : Int32))) fun I3 =>
 bnd (x2 + (1 : Int32)) fun v4 =>
 kk34 I3 J x1 v4)))
def LP_X0_admit_34 : Nat → MI → MJ → Int32 → Int32 → Option (MI × MJ)
  | 0, _, _, _, _ => none
  | n + 1, I, J, x1, x2 => LB_X0_admit_34 (fun I J x1 x2 => LP_X0_admit_34 n I J x1 x2) I J x1 x2
def f_X0_admit (I : MI) (J : MJ) (a1 : Int32) : Option (MI × MJ) := bnd (w2 I 30 1 ((I 30 1) + (1 : Int32))) fun I1 =>
 (if (I1 30 2) = (-9 : Int32) then bnd (w2 I1 30 2 a1) fun I2 =>
 LP_X0_admit_34 FU I2 J a1 (0 : Int32)
 else (if (I1 30 2) ≤ a1 then LP_X0_admit_34 FU I1 J a1 (0 : Int32)
 else bnd (w2 I1 30 2 a1) fun I3 =>
 LP_X0_admit_34 FU I3 J a1 (0 : Int32)))
def LB_X7_tryAllCauses_30 (kk22 : MI → MJ → Int32 → Int32 → Option (MI × MJ)) (kk30 : MI → MJ → Int32 → Int32 → Int32 → Option (MI × MJ)) (I : MI) (J : MJ) (x1 : Int32) (x2 : Int32) (x3 : Int32) : Option (MI × MJ) := (if (16 : Int32) ≤ x3 then bnd (x2 + (1 : Int32)) fun v1 =>
 kk22 I J x1 v1
 else bnd ((x2 + ((16 : Int32) * x3))) fun v2 =>
 bo2 (f_X1_suffer 10 I J v2) fun I4 J5 =>
 bo3 (f_X2_agreeWith I4 J5 x1 10) fun r9 I7 J8 =>
 (if r9 = (0 : Int32) then bnd (x3 + (1 : Int32)) fun v10 =>
 kk30 I7 J8 x1 x2 v10
 else bo2 (f_X0_admit I7 J8 v2) fun I12 J13 =>
 bnd (x3 + (1 : Int32)) fun v14 =>
 kk30 I12 J13 x1 x2 v14))
def LP_X7_tryAllCauses_30 (kk22 : MI → MJ → Int32 → Int32 → Option (MI × MJ)) : Nat → MI → MJ → Int32 → Int32 → Int32 → Option (MI × MJ)
  | 0, _, _, _, _, _ => none
  | n + 1, I, J, x1, x2, x3 => LB_X7_tryAllCauses_30 kk22 (fun I J x1 x2 x3 => LP_X7_tryAllCauses_30 kk22 n I J x1 x2 x3) I J x1 x2 x3
def LB_X7_tryAllCauses_22 (kk22 : MI → MJ → Int32 → Int32 → Option (MI × MJ)) (I : MI) (J : MJ) (x1 : Int32) (x2 : Int32) : Option (MI × MJ) := (if (16 : Int32) ≤ x2 then some (I, J)
 else LP_X7_tryAllCauses_30 kk22 FU I J x1 x2 (0 : Int32))
def LP_X7_tryAllCauses_22 : Nat → MI → MJ → Int32 → Int32 → Option (MI × MJ)
  | 0, _, _, _, _ => none
  | n + 1, I, J, x1, x2 => LB_X7_tryAllCauses_22 (fun I J x1 x2 => LP_X7_tryAllCauses_22 n I J x1 x2) I J x1 x2
def f_X7_tryAllCauses (I : MI) (J : MJ) (a1 : Int32) : Option (MI × MJ) := bo2 (f_X0_begin I J) fun I2 J3 =>
 chk (inb a1 4) (bo2 (f_X1_becomeLike 10 I2 J3 (rc a1)) fun I6 J7 =>
 LP_X7_tryAllCauses_22 FU I6 J7 a1 (0 : Int32))
def LB_X0_greatest_4 (I : MI) (J : MJ) (kk4 : Int32 → Int32 → Int32 → Option Int32) (x1 : Int32) (x2 : Int32) (x3 : Int32) : Option Int32 := (if (4 : Int32) ≤ x3 then some x2
 else chk (inb ((x1 * (4 : Int32)) + x3) 16) (bnd ((imax x2 (I 31 ((x1 * (4 : Int32)) + x3).toNatClampNeg))) fun v2 =>
 bnd (x3 + (1 : Int32)) fun v3 =>
 kk4 x1 v2 v3))
def LP_X0_greatest_4 (I : MI) (J : MJ) : Nat → Int32 → Int32 → Int32 → Option Int32
  | 0, _, _, _ => none
  | n + 1, x1, x2, x3 => LB_X0_greatest_4 I J (fun x1 x2 x3 => LP_X0_greatest_4 I J n x1 x2 x3) x1 x2 x3
def f_X0_greatest (I : MI) (J : MJ) (a1 : Int32) : Option Int32 := LP_X0_greatest_4 I J FU a1 (0 : Int32) (0 : Int32)
def LB_X0_nextLook_15 (I : MI) (J : MJ) (kk15 : Int32 → Int32 → Option Int32) (x1 : Int32) (x2 : Int32) : Option Int32 := (if (4 : Int32) ≤ x2 then some x1
 else bo1 (f_X0_greatest I J x2) fun r2 =>
 bo1 (f_X0_greatest I J x1) fun r4 =>
 (if r4 ≤ r2 then bnd (x2 + (1 : Int32)) fun v5 =>
 kk15 x1 v5
 else bnd (x2 + (1 : Int32)) fun v6 =>
 kk15 x2 v6))
def LP_X0_nextLook_15 (I : MI) (J : MJ) : Nat → Int32 → Int32 → Option Int32
  | 0, _, _ => none
  | n + 1, x1, x2 => LB_X0_nextLook_15 I J (fun x1 x2 => LP_X0_nextLook_15 I J n x1 x2) x1 x2
def f_X0_nextLook (I : MI) (J : MJ) : Option Int32 := (if (1 : Int32) < (I 30 1) then LP_X0_nextLook_15 I J FU (0 : Int32) (1 : Int32)
 else some (-9 : Int32))
def f_X7_ails (I : MI) (J : MJ) (a1 : Int32) (a2 : Int32) : Option (Int32 × MI × MJ) := bo1 (f_X7_isRam I J a1) fun r2 =>
 (if r2 = (0 : Int32) then some ((-1 : Int32), I, J)
 else bo1 (f_X7_within a2 (0 : Int32) (2 : Int32)) fun r4 =>
 (if r4 = (0 : Int32) then some ((-1 : Int32), I, J)
 else bo2 (f_X7_tryAllCauses I J a1) fun I6 J7 =>
 (if a2 = (0 : Int32) then some ((I6 30 1), I6, J7)
 else (if a2 = (1 : Int32) then some ((I6 30 2), I6, J7)
 else bo1 (f_X0_nextLook I6 J7) fun r9 =>
 some (r9, I6, J7)))))
def LB_X0_onlyValueOf_2 (I : MI) (J : MJ) (kk2 : Int32 → Int32 → Option Int32) (x1 : Int32) (x2 : Int32) : Option Int32 := (if (4 : Int32) ≤ x2 then some (-9 : Int32)
 else (if (I 30 1) ≤ (0 : Int32) then bnd (x2 + (1 : Int32)) fun v1 =>
 kk2 x1 v1
 else chk (inb ((x1 * (4 : Int32)) + x2) 16) ((if (I 31 ((x1 * (4 : Int32)) + x2).toNatClampNeg) = (I 30 1) then some x2
 else bnd (x2 + (1 : Int32)) fun v3 =>
 kk2 x1 v3))))
def LP_X0_onlyValueOf_2 (I : MI) (J : MJ) : Nat → Int32 → Int32 → Option Int32
  | 0, _, _ => none
  | n + 1, x1, x2 => LB_X0_onlyValueOf_2 I J (fun x1 x2 => LP_X0_onlyValueOf_2 I J n x1 x2) x1 x2
def f_X0_onlyValueOf (I : MI) (J : MJ) (a1 : Int32) : Option Int32 := LP_X0_onlyValueOf_2 I J FU a1 (0 : Int32)
def f_X7_sure (I : MI) (J : MJ) (a1 : Int32) (a2 : Int32) : Option (Int32 × MI × MJ) := bo1 (f_X7_isRam I J a1) fun r2 =>
 (if r2 = (0 : Int32) then some ((-1 : Int32), I, J)
 else bo1 (f_X7_within a2 (0 : Int32) (3 : Int32)) fun r4 =>
 (if r4 = (0 : Int32) then some ((-1 : Int32), I, J)
 else bo2 (f_X7_tryAllCauses I J a1) fun I6 J7 =>
 bo1 (f_X0_onlyValueOf I6 J7 a2) fun r9 =>
 some (r9, I6, J7)))
def f_X7_count (I : MI) (J : MJ) (a1 : Int32) : Option Int32 := (if a1 = (0 : Int32) then some (I 0 1)
 else (if a1 = (1 : Int32) then some (I 15 2)
 else (if a1 = (2 : Int32) then some (I 20 2)
 else (if a1 = (3 : Int32) then some (I 26 3)
 else (if a1 = (4 : Int32) then some (I 0 9)
 else (if a1 = (5 : Int32) then some (I 0 10)
 else (if a1 = (6 : Int32) then some (I 0 11)
 else (if a1 = (7 : Int32) then some (I 20 1)
 else some (-1 : Int32)))))))))
def f_X7_trace (I : MI) (J : MJ) : Option Int64 := some (J 0 12)
def f_X8_in (a0 : Int32) (a1 : Int32) (a2 : Int32) : Option Int32 := (if a0 < a1 then some (0 : Int32)
 else (if a2 < a0 then some (0 : Int32)
 else some (1 : Int32)))
def f_X8_isRam (I : MI) (J : MJ) (a1 : Int32) : Option Int32 := bo1 (f_X8_in a1 (0 : Int32) ((I 0 2) - (1 : Int32))) fun r2 =>
 chk (isB r2) (some r2)
def LB_X8_ram_77 (kk77 : MI → MJ → Int32 → Int32 → Int32 → Int32 → Int32 → Int32 → Option (Int32 × MI × MJ)) (I : MI) (J : MJ) (x1 : Int32) (x2 : Int32) (x3 : Int32) (x4 : Int32) (x5 : Int32) (x6 : Int32) : Option (Int32 × MI × MJ) := (if (13 : Int32) ≤ x6 then chk (inb (x5 + (0 : Int32)) 52) (bnd (w2 I 1 ((x5 + (0 : Int32)).toNatClampNeg) x1) fun I2 =>
 chk (inb (x5 + (1 : Int32)) 52) (bnd (w2 I2 1 ((x5 + (1 : Int32)).toNatClampNeg) x2) fun I4 =>
 chk (inb (x5 + (2 : Int32)) 52) (bnd (w2 I4 1 ((x5 + (2 : Int32)).toNatClampNeg) x3) fun I6 =>
 chk (inb (x5 + (3 : Int32)) 52) (bnd (w2 I6 1 ((x5 + (3 : Int32)).toNatClampNeg) x4) fun I8 =>
 chk (inb (x5 + (4 : Int32)) 52) (bnd (w2 I8 1 ((x5 + (4 : Int32)).toNatClampNeg) (60 : Int32)) fun I10 =>
 chk (inb (x5 + (5 : Int32)) 52) (bnd (w2 I10 1 ((x5 + (5 : Int32)).toNatClampNeg) (4 : Int32)) fun I12 =>
 chk (inb (x5 + (6 : Int32)) 52) (bnd (w2 I12 1 ((x5 + (6 : Int32)).toNatClampNeg) (100 : Int32)) fun I14 =>
 chk (inb (x5 + (12 : Int32)) 52) (bnd (w2 I14 1 ((x5 + (12 : Int32)).toNatClampNeg) (1 : Int32)) fun I16 =>
 bnd (w2 I16 0 2 ((I16 0 2) + (1 : Int32))) fun I17 =>
 some (((I17 0 2) - (1 : Int32)), I17, J)))))))))
 else chk (inb (x5 + x6) 52) (bnd (w2 I 1 ((x5 + x6).toNatClampNeg) (0 : Int32)) fun I19 =>
 bnd (x6 + (1 : Int32)) fun v20 =>
 kk77 I19 J x1 x2 x3 x4 x5 v20))
def LP_X8_ram_77 : Nat → MI → MJ → Int32 → Int32 → Int32 → Int32 → Int32 → Int32 → Option (Int32 × MI × MJ)
  | 0, _, _, _, _, _, _, _, _ => none
  | n + 1, I, J, x1, x2, x3, x4, x5, x6 => LB_X8_ram_77 (fun I J x1 x2 x3 x4 x5 x6 => LP_X8_ram_77 n I J x1 x2 x3 x4 x5 x6) I J x1 x2 x3 x4 x5 x6
def f_X8_ram (I : MI) (J : MJ) (a1 : Int32) (a2 : Int32) (a3 : Int32) (a4 : Int32) : Option (Int32 × MI × MJ) := bnd (w2 I 0 0 (0 : Int32)) fun I1 =>
 bo1 (f_X8_in a1 (5 : Int32) (200 : Int32)) fun r3 =>
 (if r3 = (0 : Int32) then some ((-1 : Int32), I1, J)
 else bo1 (f_X8_in a2 (a1 + (1 : Int32)) (1000 : Int32)) fun r5 =>
 (if r5 = (0 : Int32) then some ((-1 : Int32), I1, J)
 else bo1 (f_X8_in a3 (20 : Int32) (900 : Int32)) fun r7 =>
 (if r7 = (0 : Int32) then some ((-1 : Int32), I1, J)
 else bo1 (f_X8_in a4 (1 : Int32) (9 : Int32)) fun r9 =>
 (if r9 = (0 : Int32) then some ((-1 : Int32), I1, J)
 else (if (I1 0 2) = (4 : Int32) then some ((-3 : Int32), I1, J)
 else bnd (((13 : Int32) * (I1 0 2))) fun v10 =>
 LP_X8_ram_77 FU I1 J a1 a2 a3 a4 v10 (0 : Int32))))))
def f_X8_isValue (I : MI) (J : MJ) (a1 : Int32) (a2 : Int32) (a3 : Int32) : Option Int32 := (if a2 = (0 : Int32) then bo1 (f_X8_in a3 (5 : Int32) (200 : Int32)) fun r2 =>
 (if r2 = (0 : Int32) then some (0 : Int32)
 else chk (inb (a1 + (1 : Int32)) 52) ((if (I 1 (a1 + (1 : Int32)).toNatClampNeg) ≤ a3 then some (0 : Int32)
 else some (1 : Int32))))
 else (if a2 = (1 : Int32) then chk (inb (a1 + (0 : Int32)) 52) (bo1 (f_X8_in a3 ((I 1 (a1 + (0 : Int32)).toNatClampNeg) + (1 : Int32)) (1000 : Int32)) fun r6 =>
 chk (isB r6) (some r6))
 else (if a2 = (2 : Int32) then bo1 (f_X8_in a3 (20 : Int32) (900 : Int32)) fun r8 =>
 chk (isB r8) (some r8)
 else (if a2 = (3 : Int32) then bo1 (f_X8_in a3 (1 : Int32) (9 : Int32)) fun r10 =>
 chk (isB r10) (some r10)
 else (if a2 = (4 : Int32) then bo1 (f_X8_in a3 (5 : Int32) (400 : Int32)) fun r12 =>
 chk (isB r12) (some r12)
 else (if a2 = (5 : Int32) then bo1 (f_X8_in a3 (1 : Int32) (9 : Int32)) fun r14 =>
 chk (isB r14) (some r14)
 else (if a2 = (6 : Int32) then bo1 (f_X8_in a3 (0 : Int32) (100 : Int32)) fun r16 =>
 chk (isB r16) (some r16)
 else (if a2 = (7 : Int32) then bo1 (f_X8_in a3 (0 : Int32) (3 : Int32)) fun r18 =>
 chk (isB r18) (some r18)
 else (if a2 = (8 : Int32) then bo1 (f_X8_in a3 (0 : Int32) (3 : Int32)) fun r20 =>
 chk (isB r20) (some r20)
 else (if a2 = (9 : Int32) then bo1 (f_X8_in a3 (0 : Int32) (3 : Int32)) fun r22 =>
 chk (isB r22) (some r22)
 else (if a2 = (10 : Int32) then bo1 (f_X8_in a3 (0 : Int32) (2 : Int32)) fun r24 =>
 chk (isB r24) (some r24)
 else bo1 (f_X8_in a3 (0 : Int32) (1 : Int32)) fun r26 =>
 chk (isB r26) (some r26))))))))))))
def f_X8_set (I : MI) (J : MJ) (a1 : Int32) (a2 : Int32) (a3 : Int32) : Option (Int32 × MI × MJ) := bnd (w2 I 0 0 (0 : Int32)) fun I1 =>
 bo1 (f_X8_isRam I1 J a1) fun r3 =>
 (if r3 = (0 : Int32) then some ((-1 : Int32), I1, J)
 else bo1 (f_X8_in a2 (0 : Int32) (12 : Int32)) fun r5 =>
 (if r5 = (0 : Int32) then some ((-1 : Int32), I1, J)
 else bo1 (f_X8_isValue I1 J ((13 : Int32) * a1) a2 a3) fun r7 =>
 (if r7 = (0 : Int32) then some ((-1 : Int32), I1, J)
 else chk (inb (((13 : Int32) * a1) + a2) 52) (bnd ((I1 1 (((13 : Int32) * a1) + a2).toNatClampNeg)) fun v9 =>
 chk (inb (((13 : Int32) * a1) + a2) 52) (bnd (w2 I1 1 ((((13 : Int32) * a1) + a2).toNatClampNeg) a3) fun I11 =>
 some (v9, I11, J))))))
def f_X8_about (I : MI) (J : MJ) (a1 : Int32) (a2 : Int32) : Option (Int32 × MI × MJ) := bnd (w2 I 0 0 (0 : Int32)) fun I1 =>
 bo1 (f_X8_isRam I1 J a1) fun r3 =>
 (if r3 = (0 : Int32) then some ((-1 : Int32), I1, J)
 else bo1 (f_X8_in a2 (0 : Int32) (12 : Int32)) fun r5 =>
 (if r5 = (0 : Int32) then some ((-1 : Int32), I1, J)
 else chk (inb (((13 : Int32) * a1) + a2) 52) (some ((I1 1 (((13 : Int32) * a1) + a2).toNatClampNeg), I1, J))))
def LB_X8_takes_2 (kk2 : MI → MJ → Int32 → Int32 → Option (MI × MJ)) (I : MI) (J : MJ) (x1 : Int32) (x2 : Int32) : Option (MI × MJ) := (if (13 : Int32) ≤ x2 then some (I, J)
 else chk (inb (((13 : Int32) * x1) + x2) 52) (chk (inb x2 13) (bnd (w2 I 2 x2.toNatClampNeg (I 1 (((13 : Int32) * x1) + x2).toNatClampNeg)) fun I3 =>
 bnd (x2 + (1 : Int32)) fun v4 =>
 kk2 I3 J x1 v4)))
def LP_X8_takes_2 : Nat → MI → MJ → Int32 → Int32 → Option (MI × MJ)
  | 0, _, _, _, _ => none
  | n + 1, I, J, x1, x2 => LB_X8_takes_2 (fun I J x1 x2 => LP_X8_takes_2 n I J x1 x2) I J x1 x2
def f_X8_takes (I : MI) (J : MJ) (a1 : Int32) : Option (MI × MJ) := LP_X8_takes_2 FU I J a1 (0 : Int32)
def LB_X8_workOf_46 (I : MI) (J : MJ) (x1 : Int32) (x2 : Int32) : Option Int32 := (if x1 ≤ (1 : Int32) then some x2
 else bnd ((x2 + (x2 / (10 : Int32)))) fun v1 =>
 (if v1 ≤ (85 : Int32) then bnd ((v1 - ((2 : Int32) * (I 2 8)))) fun v2 =>
 some v2
 else bnd (((85 : Int32) - ((2 : Int32) * (I 2 8)))) fun v3 =>
 some v3))
def LB_X8_workOf_45 (I : MI) (J : MJ) (x1 : Int32) (s0 : Int32) : Option Int32 := LB_X8_workOf_46 I J x1 s0
def f_X8_workOf (I : MI) (J : MJ) (a1 : Int32) : Option Int32 := bnd ((((40 : Int32) + ((I 2 6) / (4 : Int32))) - ((3 : Int32) * (I 2 7)))) fun v1 =>
 (if a1 ≤ (0 : Int32) then LB_X8_workOf_46 I J a1 v1
 else (if (v1 + (8 : Int32)) ≤ (80 : Int32) then LB_X8_workOf_45 I J a1 (v1 + (8 : Int32))
 else LB_X8_workOf_45 I J a1 (80 : Int32)))
def f_X8_work (I : MI) (J : MJ) (a1 : Int32) (a2 : Int32) : Option (Int32 × MI × MJ) := bnd (w2 I 0 0 (0 : Int32)) fun I1 =>
 bo1 (f_X8_in a1 (0 : Int32) (2 : Int32)) fun r3 =>
 (if r3 = (0 : Int32) then some ((-1 : Int32), I1, J)
 else bo1 (f_X8_isRam I1 J a2) fun r5 =>
 (if r5 = (0 : Int32) then some ((-1 : Int32), I1, J)
 else (if a1 = (0 : Int32) then bnd (w2J J 0 1 ((J 0 1) + (1 : Int64))) fun J18 =>
 bo2 (f_X8_takes I1 J18 a2) fun I20 J21 =>
 bo1 (f_X8_workOf I20 J21 a1) fun r23 =>
 some (r23, I20, J21)
 else (if a1 = (1 : Int32) then bnd (w2J J 0 1 ((J 0 1) + (11 : Int64))) fun J12 =>
 bo2 (f_X8_takes I1 J12 a2) fun I14 J15 =>
 bo1 (f_X8_workOf I14 J15 a1) fun r17 =>
 some (r17, I14, J15)
 else bnd (w2J J 0 1 ((J 0 1) + (111 : Int64))) fun J6 =>
 bo2 (f_X8_takes I1 J6 a2) fun I8 J9 =>
 bo1 (f_X8_workOf I8 J9 a1) fun r11 =>
 some (r11, I8, J9)))))
def LB_X8_beats_62 (kk62 : MI → MJ → Int32 → Int32 → Int32 → Option (Int32 × MI × MJ)) (I : MI) (J : MJ) (x1 : Int32) (x2 : Int32) (x3 : Int32) : Option (Int32 × MI × MJ) := (if (400 : Int32) < x3 then some ((0 : Int32), I, J)
 else bnd ((J 0 6)) fun v1 =>
 bnd (w2J J 0 6 ((v1 + x1.toInt64) - ((v1 * (((3 : Int32) + (I 2 8)).toInt64)) / (100 : Int64)))) fun J2 =>
 bnd (w2J J2 0 7 ((J2 0 7) + ((((J2 0 6) * ((I 2 3).toInt64)) * x2.toInt64) / (100 : Int64)))) fun J3 =>
 (if (((J3 0 6) * (J3 0 6)) / (50 : Int64)) < (((I 2 4).toInt64) * x2.toInt64) then (if v1 < (J3 0 6) then bnd (x3 + (1 : Int32)) fun v4 =>
 kk62 I J3 x1 x2 v4
 else some ((0 : Int32), I, J3))
 else bnd (w2 I 0 5 x3) fun I5 =>
 bnd (w2 I5 0 9 ((x3 + (4 : Int32)) + ((I5 2 1) / (200 : Int32)))) fun I6 =>
 (if (J3 0 6) < (((I6 2 1) / (20 : Int32)).toInt64) then some ((1 : Int32), I6, J3)
 else bo1 (f_X8_workOf I6 J3 (I6 2 10)) fun r8 =>
 chk (nzl ((100 : Int64) * ((I6 2 1).toInt64))) (bnd (w2J J3 0 8 ((((J3 0 7) * ((I6 2 0).toInt64)) * r8.toInt64) / ((100 : Int64) * ((I6 2 1).toInt64)))) fun J10 =>
 bnd (w2J J10 0 8 ((J10 0 8) - (((((I6 2 9).toInt64) * (J10 0 8)) + (19 : Int64)) / (20 : Int64)))) fun J11 =>
 some ((1 : Int32), I6, J11)))))
def LP_X8_beats_62 : Nat → MI → MJ → Int32 → Int32 → Int32 → Option (Int32 × MI × MJ)
  | 0, _, _, _, _, _ => none
  | n + 1, I, J, x1, x2, x3 => LB_X8_beats_62 (fun I J x1 x2 x3 => LP_X8_beats_62 n I J x1 x2 x3) I J x1 x2 x3
def f_X8_beats (I : MI) (J : MJ) : Option (Int32 × MI × MJ) := chk (nz (I 2 2)) (bnd ((((200 : Int32) * (I 2 0)) / (I 2 2))) fun v2 =>
 bnd (((I 2 5) + (I 2 7))) fun v3 =>
 bnd (w2J J 0 6 (0 : Int64)) fun J4 =>
 bnd (w2J J4 0 7 (0 : Int64)) fun J5 =>
 bnd (w2J J5 0 8 (0 : Int64)) fun J6 =>
 bnd (w2 I 0 5 (-9 : Int32)) fun I7 =>
 bnd (w2 I7 0 9 (-9 : Int32)) fun I8 =>
 LP_X8_beats_62 FU I8 J6 v2 v3 (1 : Int32))
def f_X8_beat (I : MI) (J : MJ) (a1 : Int32) (a2 : Int32) : Option (Int32 × MI × MJ) := bnd (w2 I 0 0 (0 : Int32)) fun I1 =>
 bo1 (f_X8_isRam I1 J a1) fun r3 =>
 (if r3 = (0 : Int32) then some ((-1 : Int32), I1, J)
 else bo1 (f_X8_in a2 (0 : Int32) (4 : Int32)) fun r5 =>
 (if r5 = (0 : Int32) then some ((-1 : Int32), I1, J)
 else bo2 (f_X8_takes I1 J a1) fun I7 J8 =>
 bo3 (f_X8_beats I7 J8) fun r12 I10 J11 =>
 (if r12 = (0 : Int32) then some ((-9 : Int32), I10, J11)
 else (if a2 = (0 : Int32) then some ((I10 0 5), I10, J11)
 else (if a2 = (1 : Int32) then some ((J11 0 6).toInt32, I10, J11)
 else (if a2 = (2 : Int32) then some ((J11 0 7).toInt32, I10, J11)
 else (if a2 = (3 : Int32) then some ((J11 0 8).toInt32, I10, J11)
 else some ((I10 0 9), I10, J11))))))))
def f_X8_hourOf (I : MI) (J : MJ) (a1 : Int32) : Option (Int32 × MI × MJ) := bo3 (f_X8_beats I J) fun r4 I2 J3 =>
 (if r4 = (0 : Int32) then bnd ((((((36 : Int32) * (I2 2 3)) * ((I2 2 5) + (I2 2 7))) * (I2 2 0)) / (10 : Int32))) fun v7 =>
 (if a1 = (1 : Int32) then some (v7, I2, J3)
 else (if a1 = (3 : Int32) then some (v7, I2, J3)
 else some ((0 : Int32), I2, J3)))
 else chk (nz (I2 0 9)) (bnd (((3600 : Int32) / (I2 0 9))) fun v6 =>
 (if a1 = (0 : Int32) then some (v6.toInt64.toInt32, I2, J3)
 else (if a1 = (1 : Int32) then some ((v6.toInt64 * (J3 0 7)).toInt32, I2, J3)
 else (if a1 = (2 : Int32) then some ((v6.toInt64 * (J3 0 8)).toInt32, I2, J3)
 else some ((v6.toInt64 * ((J3 0 7) + (J3 0 8))).toInt32, I2, J3))))))
def f_X8_hourly (I : MI) (J : MJ) (a1 : Int32) (a2 : Int32) : Option (Int32 × MI × MJ) := bnd (w2 I 0 0 (0 : Int32)) fun I1 =>
 bo1 (f_X8_isRam I1 J a1) fun r3 =>
 (if r3 = (0 : Int32) then some ((-1 : Int32), I1, J)
 else bo1 (f_X8_in a2 (0 : Int32) (3 : Int32)) fun r5 =>
 (if r5 = (0 : Int32) then some ((-1 : Int32), I1, J)
 else bo2 (f_X8_takes I1 J a1) fun I7 J8 =>
 bo3 (f_X8_hourOf I7 J8 a2) fun r12 I10 J11 =>
 some (r12, I10, J11)))
def f_X8_isMonth (a0 : Int32) : Option Int32 := bo1 (f_X8_in a0 (0 : Int32) (11 : Int32)) fun r2 =>
 chk (isB r2) (some r2)
def f_X8_spring (I : MI) (J : MJ) (a1 : Int32) (a2 : Int32) : Option (Int32 × MI × MJ) := bnd (w2 I 0 0 (0 : Int32)) fun I1 =>
 bo1 (f_X8_isMonth a1) fun r3 =>
 (if r3 = (0 : Int32) then some ((-1 : Int32), I1, J)
 else bo1 (f_X8_in a2 (0 : Int32) (1000000 : Int32)) fun r5 =>
 (if r5 = (0 : Int32) then some ((-1 : Int32), I1, J)
 else chk (inb a1 12) (bnd ((I1 3 a1.toNatClampNeg)) fun v7 =>
 chk (inb a1 12) (bnd (w2 I1 3 a1.toNatClampNeg a2) fun I9 =>
 some (v7, I9, J)))))
def LB_X8_tuned_182 (kk65 : MI → MJ → Int32 → Int32 → Int32 → Int32 → Int32 → Int64 → Int64 → Int32 → Option (Int32 × MI × MJ)) (kk76 : MI → MJ → Int32 → Int32 → Int32 → Int32 → Int32 → Int64 → Int64 → Int32 → Int32 → Option (Int32 × MI × MJ)) (I : MI) (J : MJ) (x2 : Int32) (x3 : Int32) (x4 : Int32) (x5 : Int32) (x6 : Int32) (y7 : Int64) (y9 : Int64) (x11 : Int32) (x12 : Int32) (y13 : Int64) (s0 : Int32) : Option (Int32 × MI × MJ) := chk (inb x2 12) ((if ((I 3 x2.toNatClampNeg).toInt64) < (y13 * ((J 0 7) + (J 0 8))) then bnd (x12 + (1 : Int32)) fun v2 =>
 kk76 I J x2 x3 x4 x5 x6 y7 y9 x11 v2
 else (if y13 ≤ (0 : Int64) then bnd (x12 + (1 : Int32)) fun v3 =>
 kk76 I J x2 x3 x4 x5 x6 y7 y9 x11 v3
 else (if s0 = (0 : Int32) then bnd (x12 + (1 : Int32)) fun v4 =>
 kk76 I J x2 x3 x4 x5 x6 y7 y9 x11 v4
 else bnd ((y13 * (J 0 8))) fun v5 =>
 bnd ((y13 * (J 0 7))) fun v6 =>
 bnd (x12 + (1 : Int32)) fun v7 =>
 kk76 I J x2 x3 x4 x11 x12 v5 v6 x11 v7))))
def LB_X8_tuned_177 (kk65 : MI → MJ → Int32 → Int32 → Int32 → Int32 → Int32 → Int64 → Int64 → Int32 → Option (Int32 × MI × MJ)) (kk76 : MI → MJ → Int32 → Int32 → Int32 → Int32 → Int32 → Int64 → Int64 → Int32 → Int32 → Option (Int32 × MI × MJ)) (I : MI) (J : MJ) (x2 : Int32) (x3 : Int32) (x4 : Int32) (x5 : Int32) (x6 : Int32) (y7 : Int64) (y9 : Int64) (x11 : Int32) (x12 : Int32) (y13 : Int64) : Option (Int32 × MI × MJ) := LB_X8_tuned_182 kk65 kk76 I J x2 x3 x4 x5 x6 y7 y9 x11 x12 y13 (1 : Int32)
def LB_X8_tuned_181 (kk65 : MI → MJ → Int32 → Int32 → Int32 → Int32 → Int32 → Int64 → Int64 → Int32 → Option (Int32 × MI × MJ)) (kk76 : MI → MJ → Int32 → Int32 → Int32 → Int32 → Int32 → Int64 → Int64 → Int32 → Int32 → Option (Int32 × MI × MJ)) (I : MI) (J : MJ) (x2 : Int32) (x3 : Int32) (x4 : Int32) (x5 : Int32) (x6 : Int32) (y7 : Int64) (y9 : Int64) (x11 : Int32) (x12 : Int32) (y13 : Int64) : Option (Int32 × MI × MJ) := LB_X8_tuned_182 kk65 kk76 I J x2 x3 x4 x5 x6 y7 y9 x11 x12 y13 (0 : Int32)
def LB_X8_tuned_76 (kk65 : MI → MJ → Int32 → Int32 → Int32 → Int32 → Int32 → Int64 → Int64 → Int32 → Option (Int32 × MI × MJ)) (kk76 : MI → MJ → Int32 → Int32 → Int32 → Int32 → Int32 → Int64 → Int64 → Int32 → Int32 → Option (Int32 × MI × MJ)) (I : MI) (J : MJ) (x2 : Int32) (x3 : Int32) (x4 : Int32) (x5 : Int32) (x6 : Int32) (y7 : Int64) (y9 : Int64) (x11 : Int32) (x12 : Int32) : Option (Int32 × MI × MJ) := (if (10 : Int32) ≤ x12 then bnd (x11 + (5 : Int32)) fun v1 =>
 kk65 I J x2 x3 x4 x5 x6 y7 y9 v1
 else bnd (w2 I 2 4 x11) fun I2 =>
 bnd (w2 I2 2 5 x12) fun I3 =>
 bo3 (f_X8_beats I3 J) fun r7 I5 J6 =>
 (if r7 = (0 : Int32) then bnd (x12 + (1 : Int32)) fun v8 =>
 kk76 I5 J6 x2 x3 x4 x5 x6 y7 y9 x11 v8
 else (if (J6 0 8) ≤ (0 : Int64) then bnd (x12 + (1 : Int32)) fun v9 =>
 kk76 I5 J6 x2 x3 x4 x5 x6 y7 y9 x11 v9
 else chk (nz (I5 0 9)) (bnd (((3600 : Int32) / (I5 0 9)).toInt64) fun v11 =>
 (if x5 = (-9 : Int32) then LB_X8_tuned_177 kk65 kk76 I5 J6 x2 x3 x4 x5 x6 y7 y9 x11 x12 v11
 else (if x3 = (0 : Int32) then (if (v11 * (J6 0 8)) ≤ y7 then LB_X8_tuned_181 kk65 kk76 I5 J6 x2 x3 x4 x5 x6 y7 y9 x11 x12 v11
 else LB_X8_tuned_177 kk65 kk76 I5 J6 x2 x3 x4 x5 x6 y7 y9 x11 x12 v11)
 else (if ((y9 * v11) * (J6 0 8)) ≤ ((v11 * (J6 0 7)) * y7) then LB_X8_tuned_181 kk65 kk76 I5 J6 x2 x3 x4 x5 x6 y7 y9 x11 x12 v11
 else LB_X8_tuned_177 kk65 kk76 I5 J6 x2 x3 x4 x5 x6 y7 y9 x11 x12 v11)))))))
def LP_X8_tuned_76 (kk65 : MI → MJ → Int32 → Int32 → Int32 → Int32 → Int32 → Int64 → Int64 → Int32 → Option (Int32 × MI × MJ)) : Nat → MI → MJ → Int32 → Int32 → Int32 → Int32 → Int32 → Int64 → Int64 → Int32 → Int32 → Option (Int32 × MI × MJ)
  | 0, _, _, _, _, _, _, _, _, _, _, _ => none
  | n + 1, I, J, x2, x3, x4, x5, x6, y7, y9, x11, x12 => LB_X8_tuned_76 kk65 (fun I J x2 x3 x4 x5 x6 y7 y9 x11 x12 => LP_X8_tuned_76 kk65 n I J x2 x3 x4 x5 x6 y7 y9 x11 x12) I J x2 x3 x4 x5 x6 y7 y9 x11 x12
def LB_X8_tuned_65 (kk65 : MI → MJ → Int32 → Int32 → Int32 → Int32 → Int32 → Int64 → Int64 → Int32 → Option (Int32 × MI × MJ)) (I : MI) (J : MJ) (x2 : Int32) (x3 : Int32) (x4 : Int32) (x5 : Int32) (x6 : Int32) (y7 : Int64) (y9 : Int64) (x11 : Int32) : Option (Int32 × MI × MJ) := (if (400 : Int32) < x11 then (if x4 = (0 : Int32) then some (x5, I, J)
 else (if x4 = (1 : Int32) then some (x6, I, J)
 else some (y7.toInt32, I, J)))
 else LP_X8_tuned_76 kk65 FU I J x2 x3 x4 x5 x6 y7 y9 x11 (1 : Int32))
def LP_X8_tuned_65 : Nat → MI → MJ → Int32 → Int32 → Int32 → Int32 → Int32 → Int64 → Int64 → Int32 → Option (Int32 × MI × MJ)
  | 0, _, _, _, _, _, _, _, _, _, _ => none
  | n + 1, I, J, x2, x3, x4, x5, x6, y7, y9, x11 => LB_X8_tuned_65 (fun I J x2 x3 x4 x5 x6 y7 y9 x11 => LP_X8_tuned_65 n I J x2 x3 x4 x5 x6 y7 y9 x11) I J x2 x3 x4 x5 x6 y7 y9 x11
def f_X8_tuned (I : MI) (J : MJ) (a1 : Int32) (a2 : Int32) (a3 : Int32) (a4 : Int32) : Option (Int32 × MI × MJ) := bnd (w2 I 0 0 (0 : Int32)) fun I1 =>
 bo1 (f_X8_isRam I1 J a1) fun r3 =>
 (if r3 = (0 : Int32) then some ((-1 : Int32), I1, J)
 else bo1 (f_X8_isMonth a2) fun r5 =>
 (if r5 = (0 : Int32) then some ((-1 : Int32), I1, J)
 else bo1 (f_X8_in a3 (0 : Int32) (1 : Int32)) fun r7 =>
 (if r7 = (0 : Int32) then some ((-1 : Int32), I1, J)
 else bo1 (f_X8_in a4 (0 : Int32) (2 : Int32)) fun r9 =>
 (if r9 = (0 : Int32) then some ((-1 : Int32), I1, J)
 else bo2 (f_X8_takes I1 J a1) fun I11 J12 =>
 LP_X8_tuned_65 FU I11 J12 a2 a3 a4 (-9 : Int32) (-9 : Int32) (-9 : Int64) (0 : Int64) (5 : Int32)))))
def f_X8_tune (I : MI) (J : MJ) (a1 : Int32) (a2 : Int32) : Option (Int32 × MI × MJ) := bnd (w2 I 0 0 (0 : Int32)) fun I1 =>
 bo1 (f_X8_in a1 (5 : Int32) (400 : Int32)) fun r3 =>
 (if r3 = (0 : Int32) then some ((-1 : Int32), I1, J)
 else bo1 (f_X8_in a2 (1 : Int32) (9 : Int32)) fun r5 =>
 (if r5 = (0 : Int32) then some ((-1 : Int32), I1, J)
 else (if (I1 0 14) = (6 : Int32) then some ((-3 : Int32), I1, J)
 else chk (inb (I1 0 14) 6) (bnd (w2 I1 5 ((I1 0 14).toNatClampNeg) a1) fun I7 =>
 chk (inb (I7 0 14) 6) (bnd (w2 I7 6 ((I7 0 14).toNatClampNeg) a2) fun I9 =>
 bnd (w2 I9 0 14 ((I9 0 14) + (1 : Int32))) fun I10 =>
 some (((I10 0 14) - (1 : Int32)), I10, J))))))
def f_X8_forget (I : MI) (J : MJ) : Option (Int32 × MI × MJ) := bnd (w2 I 0 0 (0 : Int32)) fun I1 =>
 bnd ((I1 0 14)) fun v2 =>
 bnd (w2 I1 0 14 (0 : Int32)) fun I3 =>
 some (v2, I3, J)
def LB_X8_numbers_4 (I : MI) (J : MJ) (kk4 : Int32 → Int32 → Option Int32) (x1 : Int32) (x2 : Int32) : Option Int32 := (if (I 0 2) ≤ x2 then some x1
 else bnd ((x1 * (7 : Int32))) fun v1 =>
 bnd (x2 + (1 : Int32)) fun v2 =>
 kk4 v1 v2)
def LP_X8_numbers_4 (I : MI) (J : MJ) : Nat → Int32 → Int32 → Option Int32
  | 0, _, _ => none
  | n + 1, x1, x2 => LB_X8_numbers_4 I J (fun x1 x2 => LP_X8_numbers_4 I J n x1 x2) x1 x2
def f_X8_numbers (I : MI) (J : MJ) : Option Int32 := LP_X8_numbers_4 I J FU (1 : Int32) (0 : Int32)
def LB_X8_side_234 (kk33 : MI → MJ → Int32 → Int32 → Int32 → Int64 → Int32 → Option (Int32 × MI × MJ)) (I : MI) (J : MJ) (x1 : Int32) (x2 : Int32) (x3 : Int32) (y4 : Int64) (x6 : Int32) (y8 : Int64) (y10 : Int64) (x12 : Int32) : Option (Int32 × MI × MJ) := (if x12 = (0 : Int32) then bnd (x6 + (1 : Int32)) fun v1 =>
 kk33 I J x1 x2 x3 y4 v1
 else chk (inb x1 12) ((if ((I 3 x1.toNatClampNeg).toInt64) < y10 then bnd (x6 + (1 : Int32)) fun v3 =>
 kk33 I J x1 x2 x3 y4 v3
 else (if y8 ≤ y4 then bnd (x6 + (1 : Int32)) fun v4 =>
 kk33 I J x1 x2 x3 y4 v4
 else bnd (x6 + (1 : Int32)) fun v5 =>
 kk33 I J x1 x2 x6 y8 v5))))
def LB_X8_side_178 (kk33 : MI → MJ → Int32 → Int32 → Int32 → Int64 → Int32 → Option (Int32 × MI × MJ)) (kk58 : MI → MJ → Int32 → Int32 → Int32 → Int64 → Int32 → Int32 → Int64 → Int64 → Int32 → Int32 → Option (Int32 × MI × MJ)) (I : MI) (J : MJ) (x1 : Int32) (x2 : Int32) (x3 : Int32) (y4 : Int64) (x6 : Int32) (x7 : Int32) (y8 : Int64) (y10 : Int64) (x13 : Int32) (s0 : Int32) : Option (Int32 × MI × MJ) := (if s0 = (0 : Int32) then bnd (x13 + (1 : Int32)) fun v1 =>
 kk58 I J x1 x2 x3 y4 x6 x7 y8 y10 s0 v1
 else chk (nz (I 0 9)) (bnd ((y8 + ((((3600 : Int32) / (I 0 9)).toInt64) * (J 0 8)))) fun v3 =>
 chk (nz (I 0 9)) (bnd ((y10 + ((((3600 : Int32) / (I 0 9)).toInt64) * ((J 0 7) + (J 0 8))))) fun v5 =>
 bnd (x13 + (1 : Int32)) fun v6 =>
 kk58 I J x1 x2 x3 y4 x6 x7 v3 v5 s0 v6)))
def LB_X8_side_177 (kk33 : MI → MJ → Int32 → Int32 → Int32 → Int64 → Int32 → Option (Int32 × MI × MJ)) (kk58 : MI → MJ → Int32 → Int32 → Int32 → Int64 → Int32 → Int32 → Int64 → Int64 → Int32 → Int32 → Option (Int32 × MI × MJ)) (I : MI) (J : MJ) (x1 : Int32) (x2 : Int32) (x3 : Int32) (y4 : Int64) (x6 : Int32) (x7 : Int32) (y8 : Int64) (y10 : Int64) (x13 : Int32) : Option (Int32 × MI × MJ) := LB_X8_side_178 kk33 kk58 I J x1 x2 x3 y4 x6 x7 y8 y10 x13 (0 : Int32)
def LB_X8_side_160 (kk33 : MI → MJ → Int32 → Int32 → Int32 → Int64 → Int32 → Option (Int32 × MI × MJ)) (kk58 : MI → MJ → Int32 → Int32 → Int32 → Int64 → Int32 → Int32 → Int64 → Int64 → Int32 → Int32 → Option (Int32 × MI × MJ)) (I : MI) (J : MJ) (x1 : Int32) (x2 : Int32) (x3 : Int32) (y4 : Int64) (x6 : Int32) (x7 : Int32) (y8 : Int64) (y10 : Int64) (x12 : Int32) (x13 : Int32) (s1 : Int32) (s2 : Int32) : Option (Int32 × MI × MJ) := chk (inb s1 13) (bnd (w2 I 2 s1.toNatClampNeg s2) fun I2 =>
 (if x12 = (0 : Int32) then LB_X8_side_177 kk33 kk58 I2 J x1 x2 x3 y4 x6 x7 y8 y10 x13
 else bo3 (f_X8_beats I2 J) fun r6 I4 J5 =>
 (if r6 = (0 : Int32) then LB_X8_side_177 kk33 kk58 I4 J5 x1 x2 x3 y4 x6 x7 y8 y10 x13
 else LB_X8_side_178 kk33 kk58 I4 J5 x1 x2 x3 y4 x6 x7 y8 y10 x13 (1 : Int32))))
def LB_X8_side_136 (kk33 : MI → MJ → Int32 → Int32 → Int32 → Int64 → Int32 → Option (Int32 × MI × MJ)) (kk58 : MI → MJ → Int32 → Int32 → Int32 → Int64 → Int32 → Int32 → Int64 → Int64 → Int32 → Int32 → Option (Int32 × MI × MJ)) (I : MI) (J : MJ) (x1 : Int32) (x2 : Int32) (x3 : Int32) (y4 : Int64) (x6 : Int32) (x7 : Int32) (y8 : Int64) (y10 : Int64) (x12 : Int32) (x13 : Int32) (x14 : Int32) (s1 : Int32) (s2 : Int32) : Option (Int32 × MI × MJ) := chk (inb s1 13) (bnd (w2 I 2 s1.toNatClampNeg s2) fun I2 =>
 (if x12 = (0 : Int32) then LB_X8_side_160 kk33 kk58 I2 J x1 x2 x3 y4 x6 x7 y8 y10 x12 x13 (5 : Int32) (1 : Int32)
 else chk (inb (x14 - (1 : Int32)) 6) (LB_X8_side_160 kk33 kk58 I2 J x1 x2 x3 y4 x6 x7 y8 y10 x12 x13 (5 : Int32) (I2 6 (x14 - (1 : Int32)).toNatClampNeg))))
def LB_X8_side_105 (kk33 : MI → MJ → Int32 → Int32 → Int32 → Int64 → Int32 → Option (Int32 × MI × MJ)) (kk58 : MI → MJ → Int32 → Int32 → Int32 → Int64 → Int32 → Int32 → Int64 → Int64 → Int32 → Int32 → Option (Int32 × MI × MJ)) (I : MI) (J : MJ) (x1 : Int32) (x2 : Int32) (x3 : Int32) (y4 : Int64) (x6 : Int32) (x7 : Int32) (y8 : Int64) (y10 : Int64) (x13 : Int32) (x14 : Int32) (s0 : Int32) : Option (Int32 × MI × MJ) := bo2 (f_X8_takes I J x13) fun I2 J3 =>
 (if s0 = (0 : Int32) then LB_X8_side_136 kk33 kk58 I2 J3 x1 x2 x3 y4 x6 x7 y8 y10 s0 x13 x14 (4 : Int32) (5 : Int32)
 else chk (inb (x14 - (1 : Int32)) 6) (LB_X8_side_136 kk33 kk58 I2 J3 x1 x2 x3 y4 x6 x7 y8 y10 s0 x13 x14 (4 : Int32) (I2 5 (x14 - (1 : Int32)).toNatClampNeg)))
def LB_X8_side_58 (kk33 : MI → MJ → Int32 → Int32 → Int32 → Int64 → Int32 → Option (Int32 × MI × MJ)) (kk58 : MI → MJ → Int32 → Int32 → Int32 → Int64 → Int32 → Int32 → Int64 → Int64 → Int32 → Int32 → Option (Int32 × MI × MJ)) (I : MI) (J : MJ) (x1 : Int32) (x2 : Int32) (x3 : Int32) (y4 : Int64) (x6 : Int32) (x7 : Int32) (y8 : Int64) (y10 : Int64) (x12 : Int32) (x13 : Int32) : Option (Int32 × MI × MJ) := (if (I 0 2) ≤ x13 then LB_X8_side_234 kk33 I J x1 x2 x3 y4 x6 y8 y10 x12
 else (if x12 = (0 : Int32) then LB_X8_side_234 kk33 I J x1 x2 x3 y4 x6 y8 y10 x12
 else bnd ((x7 - x7 / (7 : Int32) * (7 : Int32))) fun v1 =>
 bnd ((x7 / (7 : Int32))) fun v2 =>
 (if v1 ≤ (0 : Int32) then bnd (x13 + (1 : Int32)) fun v3 =>
 kk58 I J x1 x2 x3 y4 x6 v2 y8 y10 x12 v3
 else (if (I 0 14) < v1 then LB_X8_side_105 kk33 kk58 I J x1 x2 x3 y4 x6 v2 y8 y10 x13 v1 (0 : Int32)
 else LB_X8_side_105 kk33 kk58 I J x1 x2 x3 y4 x6 v2 y8 y10 x13 v1 (1 : Int32)))))
def LP_X8_side_58 (kk33 : MI → MJ → Int32 → Int32 → Int32 → Int64 → Int32 → Option (Int32 × MI × MJ)) : Nat → MI → MJ → Int32 → Int32 → Int32 → Int64 → Int32 → Int32 → Int64 → Int64 → Int32 → Int32 → Option (Int32 × MI × MJ)
  | 0, _, _, _, _, _, _, _, _, _, _, _, _ => none
  | n + 1, I, J, x1, x2, x3, y4, x6, x7, y8, y10, x12, x13 => LB_X8_side_58 kk33 (fun I J x1 x2 x3 y4 x6 x7 y8 y10 x12 x13 => LP_X8_side_58 kk33 n I J x1 x2 x3 y4 x6 x7 y8 y10 x12 x13) I J x1 x2 x3 y4 x6 x7 y8 y10 x12 x13
def LB_X8_side_33 (kk33 : MI → MJ → Int32 → Int32 → Int32 → Int64 → Int32 → Option (Int32 × MI × MJ)) (I : MI) (J : MJ) (x1 : Int32) (x2 : Int32) (x3 : Int32) (y4 : Int64) (x6 : Int32) : Option (Int32 × MI × MJ) := bo1 (f_X8_numbers I J) fun r2 =>
 (if r2 ≤ x6 then (if x2 = (0 : Int32) then some (x3, I, J)
 else some (y4.toInt32, I, J))
 else LP_X8_side_58 kk33 FU I J x1 x2 x3 y4 x6 x6 (0 : Int64) (0 : Int64) (1 : Int32) (0 : Int32))
def LP_X8_side_33 : Nat → MI → MJ → Int32 → Int32 → Int32 → Int64 → Int32 → Option (Int32 × MI × MJ)
  | 0, _, _, _, _, _, _, _ => none
  | n + 1, I, J, x1, x2, x3, y4, x6 => LB_X8_side_33 (fun I J x1 x2 x3 y4 x6 => LP_X8_side_33 n I J x1 x2 x3 y4 x6) I J x1 x2 x3 y4 x6
def f_X8_side (I : MI) (J : MJ) (a1 : Int32) (a2 : Int32) : Option (Int32 × MI × MJ) := bnd (w2 I 0 0 (0 : Int32)) fun I1 =>
 bo1 (f_X8_isMonth a1) fun r3 =>
 (if r3 = (0 : Int32) then some ((-1 : Int32), I1, J)
 else bo1 (f_X8_in a2 (0 : Int32) (1 : Int32)) fun r5 =>
 (if r5 = (0 : Int32) then some ((-1 : Int32), I1, J)
 else LP_X8_side_33 FU I1 J a1 a2 (0 : Int32) (-1 : Int64) (0 : Int32)))
def LB_X8_take_116 (kk74 : MI → MJ → Int32 → Int32 → Option (Int32 × MI × MJ)) (I : MI) (J : MJ) (x3 : Int32) (x4 : Int32) (x5 : Int32) (s1 : Int32) (s2 : Int32) : Option (Int32 × MI × MJ) := chk (inb s1 52) (bnd (w2 I 1 s1.toNatClampNeg s2) fun I2 =>
 (if x5 ≤ (0 : Int32) then bnd (x4 + (1 : Int32)) fun v3 =>
 kk74 I2 J x3 v3
 else chk (inb (x5 - (1 : Int32)) 6) (chk (inb (((13 : Int32) * x4) + (4 : Int32)) 52) (bnd (w2 I2 1 ((((13 : Int32) * x4) + (4 : Int32)).toNatClampNeg) (I2 5 (x5 - (1 : Int32)).toNatClampNeg)) fun I6 =>
 chk (inb (x5 - (1 : Int32)) 6) (chk (inb (((13 : Int32) * x4) + (5 : Int32)) 52) (bnd (w2 I6 1 ((((13 : Int32) * x4) + (5 : Int32)).toNatClampNeg) (I6 6 (x5 - (1 : Int32)).toNatClampNeg)) fun I9 =>
 bnd (x4 + (1 : Int32)) fun v10 =>
 kk74 I9 J x3 v10))))))
def LB_X8_take_74 (kk74 : MI → MJ → Int32 → Int32 → Option (Int32 × MI × MJ)) (I : MI) (J : MJ) (x3 : Int32) (x4 : Int32) : Option (Int32 × MI × MJ) := (if (I 0 2) ≤ x4 then some ((1 : Int32), I, J)
 else bnd ((x3 - x3 / (7 : Int32) * (7 : Int32))) fun v1 =>
 bnd ((x3 / (7 : Int32))) fun v2 =>
 (if v1 ≤ (0 : Int32) then LB_X8_take_116 kk74 I J v2 x4 v1 (((13 : Int32) * x4) + (12 : Int32)) (0 : Int32)
 else LB_X8_take_116 kk74 I J v2 x4 v1 (((13 : Int32) * x4) + (12 : Int32)) (1 : Int32)))
def LP_X8_take_74 : Nat → MI → MJ → Int32 → Int32 → Option (Int32 × MI × MJ)
  | 0, _, _, _, _ => none
  | n + 1, I, J, x3, x4 => LB_X8_take_74 (fun I J x3 x4 => LP_X8_take_74 n I J x3 x4) I J x3 x4
def LB_X8_take_22 (kk22 : MI → MJ → Int32 → Int32 → Int32 → Int32 → Option (Int32 × MI × MJ)) (I : MI) (J : MJ) (x1 : Int32) (x2 : Int32) (x3 : Int32) (x4 : Int32) : Option (Int32 × MI × MJ) := (if (I 0 2) ≤ x4 then (if x2 = (0 : Int32) then some ((-1 : Int32), I, J)
 else LP_X8_take_74 FU I J x1 (0 : Int32))
 else (if x2 = (0 : Int32) then (if x2 = (0 : Int32) then some ((-1 : Int32), I, J)
 else LP_X8_take_74 FU I J x1 (0 : Int32))
 else (if (I 0 14) < (x3 - x3 / (7 : Int32) * (7 : Int32)) then bnd ((x3 / (7 : Int32))) fun v1 =>
 bnd (x4 + (1 : Int32)) fun v2 =>
 kk22 I J x1 (0 : Int32) v1 v2
 else bnd ((x3 / (7 : Int32))) fun v3 =>
 bnd (x4 + (1 : Int32)) fun v4 =>
 kk22 I J x1 (1 : Int32) v3 v4)))
def LP_X8_take_22 : Nat → MI → MJ → Int32 → Int32 → Int32 → Int32 → Option (Int32 × MI × MJ)
  | 0, _, _, _, _, _, _ => none
  | n + 1, I, J, x1, x2, x3, x4 => LB_X8_take_22 (fun I J x1 x2 x3 x4 => LP_X8_take_22 n I J x1 x2 x3 x4) I J x1 x2 x3 x4
def f_X8_take (I : MI) (J : MJ) (a1 : Int32) : Option (Int32 × MI × MJ) := bnd (w2 I 0 0 (0 : Int32)) fun I1 =>
 bo1 (f_X8_numbers I1 J) fun r3 =>
 bo1 (f_X8_in a1 (0 : Int32) (r3 - (1 : Int32))) fun r5 =>
 LP_X8_take_22 FU I1 J a1 r5 a1 (0 : Int32)
def f_X8_frost (I : MI) (J : MJ) (a1 : Int32) (a2 : Int32) : Option (Int32 × MI × MJ) := bnd (w2 I 0 0 (0 : Int32)) fun I1 =>
 bo1 (f_X8_isMonth a1) fun r3 =>
 (if r3 = (0 : Int32) then some ((-1 : Int32), I1, J)
 else bo1 (f_X8_in a2 (0 : Int32) (23 : Int32)) fun r5 =>
 (if r5 = (0 : Int32) then some ((-1 : Int32), I1, J)
 else chk (inb a1 12) (bnd ((I1 4 a1.toNatClampNeg)) fun v7 =>
 chk (inb a1 12) (bnd (w2 I1 4 a1.toNatClampNeg a2) fun I9 =>
 some (v7, I9, J)))))
def f_X8_silence (I : MI) (J : MJ) (a1 : Int32) (a2 : Int32) : Option (Int32 × MI × MJ) := bnd (w2 I 0 0 (0 : Int32)) fun I1 =>
 bo1 (f_X8_in a1 (0 : Int32) (24 : Int32)) fun r3 =>
 (if r3 = (0 : Int32) then some ((-1 : Int32), I1, J)
 else bo1 (f_X8_in a2 a1 (24 : Int32)) fun r5 =>
 (if r5 = (0 : Int32) then some ((-1 : Int32), I1, J)
 else bnd (w2 I1 0 12 a1) fun I6 =>
 bnd (w2 I6 0 13 a2) fun I7 =>
 some ((1 : Int32), I7, J)))
def LB_X8_tank_87 (I : MI) (J : MJ) (x1 : Int32) (x2 : Int32) (x3 : Int32) (s1 : Int32) : Option (Int32 × MI × MJ) := bnd (w2 I 0 17 s1) fun I1 =>
 (if x1 = (1 : Int32) then bnd (w2 I1 0 18 x2) fun I3 =>
 some (x3, I3, J)
 else bnd (w2 I1 0 18 (I1 0 18)) fun I2 =>
 some (x3, I2, J))
def LB_X8_tank_73 (I : MI) (J : MJ) (x1 : Int32) (x2 : Int32) (s0 : Int32) : Option (Int32 × MI × MJ) := (if x1 = (0 : Int32) then LB_X8_tank_87 I J x1 x2 s0 x2
 else LB_X8_tank_87 I J x1 x2 s0 (I 0 17))
def LB_X8_tank_58 (I : MI) (J : MJ) (x1 : Int32) (x2 : Int32) : Option (Int32 × MI × MJ) := (if x1 = (0 : Int32) then LB_X8_tank_73 I J x1 x2 (I 0 17)
 else LB_X8_tank_73 I J x1 x2 (I 0 18))
def LB_X8_tank_38 (I : MI) (J : MJ) (x1 : Int32) (x2 : Int32) (s0 : Int32) (s1 : Int32) (s2 : Int32) : Option (Int32 × MI × MJ) := bo1 (f_X8_in s0 s1 s2) fun r2 =>
 (if r2 = (0 : Int32) then some ((-1 : Int32), I, J)
 else (if x1 = (0 : Int32) then (if (I 0 18) ≤ x2 then LB_X8_tank_58 I J x1 x2
 else some ((-1 : Int32), I, J))
 else LB_X8_tank_58 I J x1 x2))
def LB_X8_tank_25 (I : MI) (J : MJ) (x1 : Int32) (x2 : Int32) (s0 : Int32) (s1 : Int32) : Option (Int32 × MI × MJ) := (if x1 = (0 : Int32) then LB_X8_tank_38 I J x1 x2 s0 s1 (1000000 : Int32)
 else LB_X8_tank_38 I J x1 x2 s0 s1 (I 0 17))
def f_X8_tank (I : MI) (J : MJ) (a1 : Int32) (a2 : Int32) : Option (Int32 × MI × MJ) := bnd (w2 I 0 0 (0 : Int32)) fun I1 =>
 bo1 (f_X8_in a1 (0 : Int32) (1 : Int32)) fun r3 =>
 (if r3 = (0 : Int32) then some ((-1 : Int32), I1, J)
 else (if a1 = (0 : Int32) then LB_X8_tank_25 I1 J a1 a2 a2 (100 : Int32)
 else LB_X8_tank_25 I1 J a1 a2 a2 (0 : Int32)))
def LB_X8_type_37 (kk37 : MI → MJ → Int64 → Int32 → Option (Int32 × MI × MJ)) (I : MI) (J : MJ) (y1 : Int64) (x4 : Int32) : Option (Int32 × MI × MJ) := (if x4 < (0 : Int32) then some ((I 0 20), I, J)
 else chk (inb (I 0 20) 150) (bnd (w2 I 7 ((I 0 20).toNatClampNeg) (((y1 >>> (((8 : Int32) * x4).toInt64 &&& 63)) &&& (255 : Int64)).toInt32)) fun I2 =>
 bnd (w2 I2 0 20 ((I2 0 20) + (1 : Int32))) fun I3 =>
 bnd (x4 + (-1 : Int32)) fun v4 =>
 kk37 I3 J y1 v4))
def LP_X8_type_37 : Nat → MI → MJ → Int64 → Int32 → Option (Int32 × MI × MJ)
  | 0, _, _, _, _ => none
  | n + 1, I, J, y1, x4 => LB_X8_type_37 (fun I J y1 x4 => LP_X8_type_37 n I J y1 x4) I J y1 x4
def f_X8_type (I : MI) (J : MJ) (a1 : Int64) (a3 : Int32) : Option (Int32 × MI × MJ) := bnd (w2 I 0 0 (0 : Int32)) fun I1 =>
 bo1 (f_X8_in a3 (1 : Int32) (8 : Int32)) fun r3 =>
 (if r3 = (0 : Int32) then some ((-1 : Int32), I1, J)
 else (if ((I1 0 20) + a3) ≤ (150 : Int32) then bnd ((a3 - (1 : Int32))) fun v4 =>
 LP_X8_type_37 FU I1 J a1 v4
 else some ((-3 : Int32), I1, J)))
def f_X8_clear (I : MI) (J : MJ) : Option (Int32 × MI × MJ) := bnd (w2 I 0 0 (0 : Int32)) fun I1 =>
 bnd ((I1 0 20)) fun v2 =>
 bnd (w2 I1 0 20 (0 : Int32)) fun I3 =>
 some (v2, I3, J)
def f_X8_byteAt (I : MI) (J : MJ) : Option Int32 := (if (I 0 20) ≤ (I 0 24) then some (-1 : Int32)
 else chk (inb (I 0 24) 150) (some (I 7 (I 0 24).toNatClampNeg)))
def f_X8_sign (I : MI) (J : MJ) (a1 : Int32) : Option (Int32 × MI × MJ) := bo1 (f_X8_byteAt I J) fun r2 =>
 (if r2 = a1 then bnd (w2 I 0 24 ((I 0 24) + (1 : Int32))) fun I3 =>
 some ((1 : Int32), I3, J)
 else bnd (w2 I 0 26 (I 0 24)) fun I4 =>
 some ((0 : Int32), I4, J))
def LB_X8_reads_81 (kk34 : MI → MJ → Int32 → Int32 → Int32 → Option (Int32 × MI × MJ)) (I : MI) (J : MJ) (x2 : Int32) (x3 : Int32) (x4 : Int32) (x5 : Int32) : Option (Int32 × MI × MJ) := (if x5 ≤ x2 then bnd (w2 I 0 25 x5) fun I1 =>
 bnd (w2 I1 0 24 ((I1 0 24) + (1 : Int32))) fun I2 =>
 kk34 I2 J x2 x3 x4
 else bnd (w2 I 0 26 (I 0 24)) fun I3 =>
 some ((0 : Int32), I3, J))
def LB_X8_reads_34 (kk34 : MI → MJ → Int32 → Int32 → Int32 → Option (Int32 × MI × MJ)) (I : MI) (J : MJ) (x2 : Int32) (x3 : Int32) (x4 : Int32) : Option (Int32 × MI × MJ) := bo1 (f_X8_byteAt I J) fun r2 =>
 bo1 (f_X8_in r2 (48 : Int32) (57 : Int32)) fun r4 =>
 (if r4 = (0 : Int32) then (if x3 < (I 0 25) then some ((1 : Int32), I, J)
 else bnd (w2 I 0 26 ((I 0 24) - (1 : Int32))) fun I5 =>
 some ((0 : Int32), I5, J))
 else bo1 (f_X8_byteAt I J) fun r7 =>
 bnd (((((10 : Int32) * (I 0 25)) + r7) - (48 : Int32))) fun v8 =>
 (if (I 0 25) = (0 : Int32) then (if x4 < (I 0 24) then bnd (w2 I 0 26 (I 0 24)) fun I9 =>
 some ((0 : Int32), I9, J)
 else LB_X8_reads_81 kk34 I J x2 x3 x4 v8)
 else LB_X8_reads_81 kk34 I J x2 x3 x4 v8))
def LP_X8_reads_34 : Nat → MI → MJ → Int32 → Int32 → Int32 → Option (Int32 × MI × MJ)
  | 0, _, _, _, _, _ => none
  | n + 1, I, J, x2, x3, x4 => LB_X8_reads_34 (fun I J x2 x3 x4 => LP_X8_reads_34 n I J x2 x3 x4) I J x2 x3 x4
def f_X8_reads (I : MI) (J : MJ) (a1 : Int32) (a2 : Int32) (a3 : Int32) : Option (Int32 × MI × MJ) := bo1 (f_X8_byteAt I J) fun r2 =>
 bo1 (f_X8_in r2 a1 (57 : Int32)) fun r4 =>
 (if r4 = (0 : Int32) then bnd (w2 I 0 26 (I 0 24)) fun I7 =>
 some ((0 : Int32), I7, J)
 else bnd ((I 0 24)) fun v5 =>
 bnd (w2 I 0 25 (0 : Int32)) fun I6 =>
 LP_X8_reads_34 FU I6 J a2 a3 v5)
def f_X8_readsItem (I : MI) (J : MJ) (a1 : Int32) : Option (Int32 × MI × MJ) := bo3 (f_X8_sign I J (102 : Int32)) fun r4 I2 J3 =>
 (if r4 = (0 : Int32) then some ((0 : Int32), I2, J3)
 else bo1 (f_X8_byteAt I2 J3) fun r6 =>
 bo1 (f_X8_in r6 (48 : Int32) (52 : Int32)) fun r8 =>
 (if r8 = (0 : Int32) then bnd (w2 I2 0 26 (I2 0 24)) fun I49 =>
 some ((0 : Int32), I49, J3)
 else bo1 (f_X8_byteAt I2 J3) fun r10 =>
 chk (inb a1 52) (bnd (w2 I2 9 a1.toNatClampNeg (r10 - (48 : Int32))) fun I12 =>
 bnd (w2 I12 0 24 ((I12 0 24) + (1 : Int32))) fun I13 =>
 bo3 (f_X8_sign I13 J3 (32 : Int32)) fun r17 I15 J16 =>
 (if r17 = (0 : Int32) then some ((0 : Int32), I15, J16)
 else bo3 (f_X8_reads I15 J16 (48 : Int32) (23 : Int32) (-1 : Int32)) fun r21 I19 J20 =>
 (if r21 = (0 : Int32) then some ((0 : Int32), I19, J20)
 else chk (inb (a1 + (1 : Int32)) 52) (bnd (w2 I19 9 ((a1 + (1 : Int32)).toNatClampNeg) (I19 0 25)) fun I23 =>
 bo3 (f_X8_sign I23 J20 (45 : Int32)) fun r27 I25 J26 =>
 (if r27 = (0 : Int32) then some ((0 : Int32), I25, J26)
 else chk (inb (a1 + (1 : Int32)) 52) (bo3 (f_X8_reads I25 J26 (49 : Int32) (24 : Int32) (I25 9 (a1 + (1 : Int32)).toNatClampNeg)) fun r32 I30 J31 =>
 (if r32 = (0 : Int32) then some ((0 : Int32), I30, J31)
 else chk (inb (a1 + (2 : Int32)) 52) (bnd (w2 I30 9 ((a1 + (2 : Int32)).toNatClampNeg) (I30 0 25)) fun I34 =>
 bo3 (f_X8_sign I34 J31 (58 : Int32)) fun r38 I36 J37 =>
 (if r38 = (0 : Int32) then some ((0 : Int32), I36, J37)
 else bo3 (f_X8_reads I36 J37 (49 : Int32) (9999 : Int32) (0 : Int32)) fun r42 I40 J41 =>
 (if r42 = (0 : Int32) then some ((0 : Int32), I40, J41)
 else chk (inb (a1 + (3 : Int32)) 52) (bnd (w2 I40 9 ((a1 + (3 : Int32)).toNatClampNeg) (I40 0 25)) fun I44 =>
 bo3 (f_X8_sign I44 J41 (59 : Int32)) fun r48 I46 J47 =>
 chk (isB r48) (some (r48, I46, J47)))))))))))))))
def LB_X8_rights_63 (kk63 : MI → MJ → Int32 → Int32 → Option (Int32 × MI × MJ)) (I : MI) (J : MJ) (x1 : Int32) (x2 : Int32) : Option (Int32 × MI × MJ) := (if ((4 : Int32) * x1) ≤ x2 then bnd (w2 I 0 21 x1) fun I1 =>
 bnd (w2 I1 0 20 (0 : Int32)) fun I2 =>
 some (x1, I2, J)
 else chk (inb x2 52) (chk (inb x2 48) (bnd (w2 I 8 x2.toNatClampNeg (I 9 x2.toNatClampNeg)) fun I5 =>
 bnd (x2 + (1 : Int32)) fun v6 =>
 kk63 I5 J x1 v6)))
def LP_X8_rights_63 : Nat → MI → MJ → Int32 → Int32 → Option (Int32 × MI × MJ)
  | 0, _, _, _, _ => none
  | n + 1, I, J, x1, x2 => LB_X8_rights_63 (fun I J x1 x2 => LP_X8_rights_63 n I J x1 x2) I J x1 x2
def LB_X8_rights_12 (kk12 : MI → MJ → Int32 → Option (Int32 × MI × MJ)) (I : MI) (J : MJ) (x1 : Int32) : Option (Int32 × MI × MJ) := (if (I 0 20) ≤ (I 0 24) then LP_X8_rights_63 FU I J x1 (0 : Int32)
 else (if x1 = (12 : Int32) then some (((-10 : Int32) - (I 0 24)), I, J)
 else bo3 (f_X8_readsItem I J ((4 : Int32) * x1)) fun r4 I2 J3 =>
 (if r4 = (0 : Int32) then some (((-10 : Int32) - (I2 0 26)), I2, J3)
 else bnd (x1 + (1 : Int32)) fun v5 =>
 kk12 I2 J3 v5)))
def LP_X8_rights_12 : Nat → MI → MJ → Int32 → Option (Int32 × MI × MJ)
  | 0, _, _, _ => none
  | n + 1, I, J, x1 => LB_X8_rights_12 (fun I J x1 => LP_X8_rights_12 n I J x1) I J x1
def f_X8_rights (I : MI) (J : MJ) : Option (Int32 × MI × MJ) := bnd (w2 I 0 0 (0 : Int32)) fun I1 =>
 bnd (w2 I1 0 24 (0 : Int32)) fun I2 =>
 LP_X8_rights_12 FU I2 J (0 : Int32)
def LB_X8_rightOf_5 (I : MI) (J : MJ) (kk5 : Int32 → Int32 → Int32 → Int32 → Option Int32) (x1 : Int32) (x2 : Int32) (x3 : Int32) (x4 : Int32) : Option Int32 := (if (I 0 21) ≤ x4 then some x3
 else chk (inb ((4 : Int32) * x4) 48) ((if (I 8 ((4 : Int32) * x4).toNatClampNeg) = x1 then chk (inb (((4 : Int32) * x4) + (1 : Int32)) 48) ((if x2 < (I 8 (((4 : Int32) * x4) + (1 : Int32)).toNatClampNeg) then bnd ((x3 + (0 : Int32))) fun v5 =>
 bnd (x4 + (1 : Int32)) fun v6 =>
 kk5 x1 x2 v5 v6
 else chk (inb (((4 : Int32) * x4) + (2 : Int32)) 48) ((if (I 8 (((4 : Int32) * x4) + (2 : Int32)).toNatClampNeg) ≤ x2 then bnd ((x3 + (0 : Int32))) fun v8 =>
 bnd (x4 + (1 : Int32)) fun v9 =>
 kk5 x1 x2 v8 v9
 else chk (inb (((4 : Int32) * x4) + (3 : Int32)) 48) (bnd ((x3 + (I 8 (((4 : Int32) * x4) + (3 : Int32)).toNatClampNeg))) fun v11 =>
 bnd (x4 + (1 : Int32)) fun v12 =>
 kk5 x1 x2 v11 v12)))))
 else bnd ((x3 + (0 : Int32))) fun v2 =>
 bnd (x4 + (1 : Int32)) fun v3 =>
 kk5 x1 x2 v2 v3)))
def LP_X8_rightOf_5 (I : MI) (J : MJ) : Nat → Int32 → Int32 → Int32 → Int32 → Option Int32
  | 0, _, _, _, _ => none
  | n + 1, x1, x2, x3, x4 => LB_X8_rightOf_5 I J (fun x1 x2 x3 x4 => LP_X8_rightOf_5 I J n x1 x2 x3 x4) x1 x2 x3 x4
def f_X8_rightOf (I : MI) (J : MJ) (a1 : Int32) (a2 : Int32) : Option Int32 := LP_X8_rightOf_5 I J FU a1 a2 (0 : Int32) (0 : Int32)
def f_X8_right (I : MI) (J : MJ) (a1 : Int32) (a2 : Int32) : Option (Int32 × MI × MJ) := bnd (w2 I 0 0 (0 : Int32)) fun I1 =>
 bo1 (f_X8_in a1 (0 : Int32) (4 : Int32)) fun r3 =>
 (if r3 = (0 : Int32) then some ((-1 : Int32), I1, J)
 else bo1 (f_X8_in a2 (0 : Int32) (23 : Int32)) fun r5 =>
 (if r5 = (0 : Int32) then some ((-1 : Int32), I1, J)
 else bo1 (f_X8_rightOf I1 J a1 a2) fun r7 =>
 some (r7, I1, J)))
def LB_X8_goes_465 (I : MI) (J : MJ) (x3 : Int32) : Option (Int32 × MI × MJ) := (if (I 0 28) = (30 : Int32) then bnd (w2 I 0 28 (0 : Int32)) fun I1 =>
 bnd (w2 I1 0 27 (((I1 0 27) + (1 : Int32)) - ((I1 0 27) + (1 : Int32)) / (12 : Int32) * (12 : Int32))) fun I2 =>
 some (x3, I2, J)
 else some (x3, I, J))
def LB_X8_goes_358 (kk322 : MI → MJ → Int32 → Int32 → Option (Int32 × MI × MJ)) (I : MI) (J : MJ) (x3 : Int32) (x4 : Int32) (x5 : Int32) (s0 : Int32) : Option (Int32 × MI × MJ) := bnd (w2 I 0 18 ((I 0 18) - s0)) fun I1 =>
 bnd (w2J J 10 3 ((J 10 3) + s0.toInt64)) fun J2 =>
 bnd (w2J J2 10 4 ((J2 10 4) + ((x5 - s0).toInt64))) fun J3 =>
 chk (inb ((6 : Int32) + x4) 11) (chk (inb ((6 : Int32) + x4) 11) (bnd (w2J J3 10 (((6 : Int32) + x4).toNatClampNeg) ((J3 10 ((6 : Int32) + x4).toNatClampNeg) + ((x5 - s0).toInt64))) fun J6 =>
 bnd ((x3 + (x5 - s0))) fun v7 =>
 bnd (x4 + (1 : Int32)) fun v8 =>
 kk322 I1 J6 v7 v8))
def LB_X8_goes_322 (kk322 : MI → MJ → Int32 → Int32 → Option (Int32 × MI × MJ)) (I : MI) (J : MJ) (x3 : Int32) (x4 : Int32) : Option (Int32 × MI × MJ) := (if (5 : Int32) ≤ x4 then bnd (w2 I 0 29 ((I 0 29) + (1 : Int32))) fun I1 =>
 (if (I1 0 29) = (24 : Int32) then bnd (w2 I1 0 29 (0 : Int32)) fun I2 =>
 bnd (w2 I2 0 28 ((I2 0 28) + (1 : Int32))) fun I3 =>
 LB_X8_goes_465 I3 J x3
 else LB_X8_goes_465 I1 J x3)
 else bo1 (f_X8_rightOf I J x4 (I 0 29)) fun r5 =>
 (if (I 0 18) ≤ r5 then LB_X8_goes_358 kk322 I J x3 x4 r5 (I 0 18)
 else LB_X8_goes_358 kk322 I J x3 x4 r5 r5))
def LP_X8_goes_322 : Nat → MI → MJ → Int32 → Int32 → Option (Int32 × MI × MJ)
  | 0, _, _, _, _ => none
  | n + 1, I, J, x3, x4 => LB_X8_goes_322 (fun I J x3 x4 => LP_X8_goes_322 n I J x3 x4) I J x3 x4
def LB_X8_goes_294 (kk40 : MI → MJ → Int32 → Int32 → Int32 → Option (Int32 × MI × MJ)) (I : MI) (J : MJ) (x1 : Int32) (x2 : Int32) (x3 : Int32) (s0 : Int32) (s1 : Int32) : Option (Int32 × MI × MJ) := bnd ((s0 + s1)) fun v1 =>
 chk (inb (((13 : Int32) * x3) + (6 : Int32)) 52) (bnd (w2 I 1 ((((13 : Int32) * x3) + (6 : Int32)).toNatClampNeg) v1) fun I3 =>
 bnd (x3 + (1 : Int32)) fun v4 =>
 kk40 I3 J x1 x2 v4)
def LB_X8_goes_293 (kk40 : MI → MJ → Int32 → Int32 → Int32 → Option (Int32 × MI × MJ)) (I : MI) (J : MJ) (x1 : Int32) (x2 : Int32) (x3 : Int32) (s0 : Int32) : Option (Int32 × MI × MJ) := LB_X8_goes_294 kk40 I J x1 x2 x3 s0 (0 : Int32)
def LB_X8_goes_267 (kk40 : MI → MJ → Int32 → Int32 → Int32 → Option (Int32 × MI × MJ)) (I : MI) (J : MJ) (x1 : Int32) (x2 : Int32) (x3 : Int32) (s0 : Int32) : Option (Int32 × MI × MJ) := (if (I 2 11) = (1 : Int32) then (if (100 : Int32) ≤ s0 then LB_X8_goes_293 kk40 I J x1 x2 x3 s0
 else LB_X8_goes_294 kk40 I J x1 x2 x3 s0 (1 : Int32))
 else LB_X8_goes_293 kk40 I J x1 x2 x3 s0)
def LB_X8_goes_232 (kk40 : MI → MJ → Int32 → Int32 → Int32 → Option (Int32 × MI × MJ)) (I : MI) (J : MJ) (x1 : Int32) (x2 : Int32) (x3 : Int32) (x7 : Int32) : Option (Int32 × MI × MJ) := (if x7 = (0 : Int32) then bnd (x3 + (1 : Int32)) fun v1 =>
 kk40 I J x1 x2 v1
 else bnd ((((I 2 6) - (1 : Int32)) - (I 2 9))) fun v2 =>
 (if (0 : Int32) ≤ v2 then LB_X8_goes_267 kk40 I J x1 x2 x3 v2
 else LB_X8_goes_267 kk40 I J x1 x2 x3 (0 : Int32)))
def LB_X8_goes_154 (kk40 : MI → MJ → Int32 → Int32 → Int32 → Option (Int32 × MI × MJ)) (I : MI) (J : MJ) (x1 : Int32) (x2 : Int32) (x3 : Int32) (x6 : Int32) (s0 : Int32) : Option (Int32 × MI × MJ) := bnd (w2J J 10 0 ((J 10 0) + x6.toInt64)) fun J1 =>
 bo3 (f_X8_hourOf I J1 (1 : Int32)) fun r5 I3 J4 =>
 bnd (w2J J4 10 1 ((J1 10 1) + r5.toInt64)) fun J6 =>
 bnd (w2 I3 0 18 ((I3 0 18) + x6)) fun I7 =>
 (if (I7 0 18) ≤ (I7 0 17) then LB_X8_goes_232 kk40 I7 J6 x1 x2 x3 s0
 else bnd (w2J J6 10 2 ((J6 10 2) + (((I7 0 18) - (I7 0 17)).toInt64))) fun J8 =>
 bnd (w2 I7 0 18 (I7 0 17)) fun I9 =>
 LB_X8_goes_232 kk40 I9 J8 x1 x2 x3 s0)
def LB_X8_goes_115 (kk40 : MI → MJ → Int32 → Int32 → Int32 → Option (Int32 × MI × MJ)) (I : MI) (J : MJ) (x1 : Int32) (x2 : Int32) (x3 : Int32) (x4 : Int32) (s0 : Int32) : Option (Int32 × MI × MJ) := (if x4 = (0 : Int32) then bnd (x3 + (1 : Int32)) fun v1 =>
 kk40 I J x1 x2 v1
 else (if x1 < s0 then bnd (x3 + (1 : Int32)) fun v2 =>
 kk40 I J x1 x2 v2
 else bnd ((x1 - s0)) fun v3 =>
 bo3 (f_X8_hourOf I J (2 : Int32)) fun r7 I5 J6 =>
 (if (I5 0 5) = (-9 : Int32) then LB_X8_goes_154 kk40 I5 J6 v3 x2 x3 r7 (0 : Int32)
 else LB_X8_goes_154 kk40 I5 J6 v3 x2 x3 r7 (1 : Int32))))
def LB_X8_goes_99 (kk40 : MI → MJ → Int32 → Int32 → Int32 → Option (Int32 × MI × MJ)) (I : MI) (J : MJ) (x1 : Int32) (x2 : Int32) (x3 : Int32) (s0 : Int32) : Option (Int32 × MI × MJ) := (if s0 = (0 : Int32) then LB_X8_goes_115 kk40 I J x1 x2 x3 s0 (0 : Int32)
 else bo3 (f_X8_hourOf I J (3 : Int32)) fun r4 I2 J3 =>
 LB_X8_goes_115 kk40 I2 J3 x1 x2 x3 s0 r4)
def LB_X8_goes_98 (kk40 : MI → MJ → Int32 → Int32 → Int32 → Option (Int32 × MI × MJ)) (I : MI) (J : MJ) (x1 : Int32) (x2 : Int32) (x3 : Int32) : Option (Int32 × MI × MJ) := LB_X8_goes_99 kk40 I J x1 x2 x3 (0 : Int32)
def LB_X8_goes_94 (kk40 : MI → MJ → Int32 → Int32 → Int32 → Option (Int32 × MI × MJ)) (I : MI) (J : MJ) (x1 : Int32) (x2 : Int32) (x3 : Int32) : Option (Int32 × MI × MJ) := LB_X8_goes_99 kk40 I J x1 x2 x3 (1 : Int32)
def LB_X8_goes_40 (kk40 : MI → MJ → Int32 → Int32 → Int32 → Option (Int32 × MI × MJ)) (I : MI) (J : MJ) (x1 : Int32) (x2 : Int32) (x3 : Int32) : Option (Int32 × MI × MJ) := (if (I 0 2) ≤ x3 then LP_X8_goes_322 FU I J (0 : Int32) (0 : Int32)
 else bo2 (f_X8_takes I J x3) fun I2 J3 =>
 (if (I2 2 12) = (1 : Int32) then (if x2 = (0 : Int32) then (if (2 : Int32) < (I2 2 5) then LB_X8_goes_94 kk40 I2 J3 x1 x2 x3
 else chk (inb (I2 0 27) 12) ((if (I2 0 29) < (I2 4 (I2 0 27).toNatClampNeg) then LB_X8_goes_98 kk40 I2 J3 x1 x2 x3
 else LB_X8_goes_94 kk40 I2 J3 x1 x2 x3)))
 else LB_X8_goes_98 kk40 I2 J3 x1 x2 x3)
 else LB_X8_goes_98 kk40 I2 J3 x1 x2 x3))
def LP_X8_goes_40 : Nat → MI → MJ → Int32 → Int32 → Int32 → Option (Int32 × MI × MJ)
  | 0, _, _, _, _, _ => none
  | n + 1, I, J, x1, x2, x3 => LB_X8_goes_40 (fun I J x1 x2 x3 => LP_X8_goes_40 n I J x1 x2 x3) I J x1 x2 x3
def f_X8_goes (I : MI) (J : MJ) : Option (Int32 × MI × MJ) := chk (inb (I 0 27) 12) (bnd ((I 3 (I 0 27).toNatClampNeg)) fun v2 =>
 (if (I 0 29) < (I 0 12) then LP_X8_goes_40 FU I J v2 (0 : Int32) (0 : Int32)
 else (if (I 0 13) ≤ (I 0 29) then LP_X8_goes_40 FU I J v2 (0 : Int32) (0 : Int32)
 else LP_X8_goes_40 FU I J v2 (1 : Int32) (0 : Int32))))
def LB_X8_hours_22 (kk22 : MI → MJ → Int32 → Int32 → Int32 → Option (Int32 × MI × MJ)) (I : MI) (J : MJ) (x1 : Int32) (x2 : Int32) (x3 : Int32) : Option (Int32 × MI × MJ) := (if x1 ≤ x3 then some (x2, I, J)
 else bo3 (f_X8_goes I J) fun r4 I2 J3 =>
 bnd ((x2 + r4)) fun v5 =>
 bnd (x3 + (1 : Int32)) fun v6 =>
 kk22 I2 J3 x1 v5 v6)
def LP_X8_hours_22 : Nat → MI → MJ → Int32 → Int32 → Int32 → Option (Int32 × MI × MJ)
  | 0, _, _, _, _, _ => none
  | n + 1, I, J, x1, x2, x3 => LB_X8_hours_22 (fun I J x1 x2 x3 => LP_X8_hours_22 n I J x1 x2 x3) I J x1 x2 x3
def f_X8_hours (I : MI) (J : MJ) (a1 : Int32) : Option (Int32 × MI × MJ) := bnd (w2 I 0 0 (0 : Int32)) fun I1 =>
 bo1 (f_X8_in a1 (1 : Int32) (720 : Int32)) fun r3 =>
 (if r3 = (0 : Int32) then some ((-1 : Int32), I1, J)
 else LP_X8_hours_22 FU I1 J a1 (0 : Int32) (0 : Int32))
def f_X8_book (I : MI) (J : MJ) (a1 : Int32) : Option (Int64 × MI × MJ) := bnd (w2 I 0 0 (0 : Int32)) fun I1 =>
 bo1 (f_X8_in a1 (0 : Int32) (10 : Int32)) fun r3 =>
 (if r3 = (0 : Int32) then some ((-1 : Int64), I1, J)
 else (if a1 = (5 : Int32) then some ((I1 0 18).toInt64, I1, J)
 else chk (inb a1 11) (some ((J 10 a1.toNatClampNeg), I1, J))))
def f_X8_isRead (a0 : Int32) : Option Int32 := (if a0 = (-9 : Int32) then some (1 : Int32)
 else bo1 (f_X8_in a0 (0 : Int32) (1000000 : Int32)) fun r2 =>
 (if r2 = (0 : Int32) then some (0 : Int32)
 else some (1 : Int32)))
def LB_X8_read_41 (I : MI) (J : MJ) (x1 : Int32) (x2 : Int32) (x3 : Int32) : Option (Int32 × MI × MJ) := (if (I 0 31) = (12 : Int32) then some ((-3 : Int32), I, J)
 else chk (inb (I 0 31) 12) (bnd (w2 I 11 ((I 0 31).toNatClampNeg) x1) fun I2 =>
 chk (inb (I2 0 31) 12) (bnd (w2 I2 12 ((I2 0 31).toNatClampNeg) x2) fun I4 =>
 chk (inb (I4 0 31) 12) (bnd (w2 I4 13 ((I4 0 31).toNatClampNeg) x3) fun I6 =>
 bnd (w2 I6 0 31 ((I6 0 31) + (1 : Int32))) fun I7 =>
 some ((I7 0 31), I7, J)))))
def f_X8_read (I : MI) (J : MJ) (a1 : Int32) (a2 : Int32) (a3 : Int32) : Option (Int32 × MI × MJ) := bnd (w2 I 0 0 (0 : Int32)) fun I1 =>
 bo1 (f_X8_isRam I1 J a1) fun r3 =>
 (if r3 = (0 : Int32) then some ((-1 : Int32), I1, J)
 else bo1 (f_X8_isRead a2) fun r5 =>
 (if r5 = (0 : Int32) then some ((-1 : Int32), I1, J)
 else bo1 (f_X8_isRead a3) fun r7 =>
 (if r7 = (0 : Int32) then some ((-1 : Int32), I1, J)
 else (if a2 = (-9 : Int32) then (if a3 = (-9 : Int32) then some ((-1 : Int32), I1, J)
 else LB_X8_read_41 I1 J a1 a2 a3)
 else LB_X8_read_41 I1 J a1 a2 a3))))
def f_X8_wipe (I : MI) (J : MJ) : Option (Int32 × MI × MJ) := bnd (w2 I 0 0 (0 : Int32)) fun I1 =>
 bnd ((I1 0 31)) fun v2 =>
 bnd (w2 I1 0 31 (0 : Int32)) fun I3 =>
 some (v2, I3, J)
def LB_X8_tolerance_65 (I : MI) (J : MJ) (x1 : Int32) (x2 : Int32) (x3 : Int32) (s1 : Int32) : Option (Int32 × MI × MJ) := bnd (w2 I 0 35 s1) fun I1 =>
 (if x1 = (1 : Int32) then bnd (w2 I1 0 36 x2) fun I3 =>
 some (x3, I3, J)
 else bnd (w2 I1 0 36 (I1 0 36)) fun I2 =>
 some (x3, I2, J))
def LB_X8_tolerance_51 (I : MI) (J : MJ) (x1 : Int32) (x2 : Int32) (s0 : Int32) : Option (Int32 × MI × MJ) := (if x1 = (0 : Int32) then LB_X8_tolerance_65 I J x1 x2 s0 x2
 else LB_X8_tolerance_65 I J x1 x2 s0 (I 0 35))
def LB_X8_tolerance_28 (I : MI) (J : MJ) (x1 : Int32) (x2 : Int32) (s0 : Int32) (s1 : Int32) (s2 : Int32) : Option (Int32 × MI × MJ) := bo1 (f_X8_in s0 s1 s2) fun r2 =>
 (if r2 = (0 : Int32) then some ((-1 : Int32), I, J)
 else (if x1 = (0 : Int32) then LB_X8_tolerance_51 I J x1 x2 (I 0 35)
 else LB_X8_tolerance_51 I J x1 x2 (I 0 36)))
def f_X8_tolerance (I : MI) (J : MJ) (a1 : Int32) (a2 : Int32) : Option (Int32 × MI × MJ) := bnd (w2 I 0 0 (0 : Int32)) fun I1 =>
 bo1 (f_X8_in a1 (0 : Int32) (1 : Int32)) fun r3 =>
 (if r3 = (0 : Int32) then some ((-1 : Int32), I1, J)
 else (if a1 = (0 : Int32) then LB_X8_tolerance_28 I1 J a1 a2 a2 (0 : Int32) (500 : Int32)
 else LB_X8_tolerance_28 I1 J a1 a2 a2 (0 : Int32) (50 : Int32)))
def f_X8_valueOf (a0 : Int32) (a1 : Int32) : Option Int32 := some ((a0 >>> (((2 : Int32) * a1) &&& 31)) &&& (3 : Int32))
def LB_X8_isFit_171 (kk104 : MI → MJ → Int32 → Int32 → Int32 → Int32 → Int32 → Option (Int32 × MI × MJ)) (I : MI) (J : MJ) (x1 : Int32) (x4 : Int32) (x5 : Int32) (x7 : Int32) (s0 : Int32) : Option (Int32 × MI × MJ) := chk (inb x7 12) (bnd (((((I 13 x7.toNatClampNeg).toInt64) * ((I 0 36).toInt64)) / (100 : Int64)).toInt32) fun v2 =>
 (if s0 = (0 : Int32) then bnd (x7 + (1 : Int32)) fun v3 =>
 kk104 I J x1 x4 x5 (0 : Int32) v3
 else chk (inb x7 12) ((if (I 13 x7.toNatClampNeg) = (-9 : Int32) then bnd (x7 + (1 : Int32)) fun v5 =>
 kk104 I J x1 x4 x5 (1 : Int32) v5
 else chk (inb x7 12) (bo1 (f_X8_in (x5 - (I 13 x7.toNatClampNeg)) (-v2) v2) fun r8 =>
 (if r8 = (0 : Int32) then bnd (x7 + (1 : Int32)) fun v9 =>
 kk104 I J x1 x4 x5 (0 : Int32) v9
 else bnd (x7 + (1 : Int32)) fun v10 =>
 kk104 I J x1 x4 x5 (1 : Int32) v10))))))
def LB_X8_isFit_166 (kk104 : MI → MJ → Int32 → Int32 → Int32 → Int32 → Int32 → Option (Int32 × MI × MJ)) (I : MI) (J : MJ) (x1 : Int32) (x4 : Int32) (x5 : Int32) (x7 : Int32) : Option (Int32 × MI × MJ) := LB_X8_isFit_171 kk104 I J x1 x4 x5 x7 (1 : Int32)
def LB_X8_isFit_104 (kk104 : MI → MJ → Int32 → Int32 → Int32 → Int32 → Int32 → Option (Int32 × MI × MJ)) (I : MI) (J : MJ) (x1 : Int32) (x4 : Int32) (x5 : Int32) (x6 : Int32) (x7 : Int32) : Option (Int32 × MI × MJ) := (if (I 0 31) ≤ x7 then chk (isB x6) (some (x6, I, J))
 else (if x6 = (0 : Int32) then chk (isB x6) (some (x6, I, J))
 else chk (inb x7 12) ((if (I 11 x7.toNatClampNeg) = x1 then chk (inb x7 12) ((if (I 12 x7.toNatClampNeg) = (-9 : Int32) then LB_X8_isFit_166 kk104 I J x1 x4 x5 x7
 else chk (inb x7 12) (bo1 (f_X8_in (x4 - (I 12 x7.toNatClampNeg)) (-(I 0 35)) (I 0 35)) fun r6 =>
 (if r6 = (0 : Int32) then LB_X8_isFit_171 kk104 I J x1 x4 x5 x7 (0 : Int32)
 else LB_X8_isFit_166 kk104 I J x1 x4 x5 x7))))
 else bnd (x7 + (1 : Int32)) fun v2 =>
 kk104 I J x1 x4 x5 x6 v2))))
def LP_X8_isFit_104 : Nat → MI → MJ → Int32 → Int32 → Int32 → Int32 → Int32 → Option (Int32 × MI × MJ)
  | 0, _, _, _, _, _, _, _ => none
  | n + 1, I, J, x1, x4, x5, x6, x7 => LB_X8_isFit_104 (fun I J x1 x4 x5 x6 x7 => LP_X8_isFit_104 n I J x1 x4 x5 x6 x7) I J x1 x4 x5 x6 x7
def LB_X8_isFit_83 (I : MI) (J : MJ) (x1 : Int32) (s1 : Int32) (s2 : Int32) : Option (Int32 × MI × MJ) := chk (inb s1 13) (bnd (w2 I 2 s1.toNatClampNeg s2) fun I2 =>
 bo3 (f_X8_hourOf I2 J (0 : Int32)) fun r6 I4 J5 =>
 bo3 (f_X8_hourOf I4 J5 (2 : Int32)) fun r10 I8 J9 =>
 LP_X8_isFit_104 FU I8 J9 x1 r6 r10 (1 : Int32) (0 : Int32))
def f_X8_isFit (I : MI) (J : MJ) (a1 : Int32) (a2 : Int32) : Option (Int32 × MI × MJ) := bo2 (f_X8_takes I J a1) fun I2 J3 =>
 bo1 (f_X8_valueOf a2 (0 : Int32)) fun r5 =>
 bnd (w2 I2 2 7 r5) fun I6 =>
 bo1 (f_X8_valueOf a2 (1 : Int32)) fun r8 =>
 bnd (w2 I6 2 8 r8) fun I9 =>
 bo1 (f_X8_valueOf a2 (2 : Int32)) fun r11 =>
 bnd (w2 I9 2 9 r11) fun I12 =>
 bo1 (f_X8_valueOf a2 (3 : Int32)) fun r14 =>
 (if r14 = (0 : Int32) then LB_X8_isFit_83 I12 J3 a1 (6 : Int32) (100 : Int32)
 else (if r14 = (1 : Int32) then LB_X8_isFit_83 I12 J3 a1 (6 : Int32) (60 : Int32)
 else (if r14 = (2 : Int32) then LB_X8_isFit_83 I12 J3 a1 (6 : Int32) (20 : Int32)
 else LB_X8_isFit_83 I12 J3 a1 (6 : Int32) (0 : Int32))))
def f_X8_fits (I : MI) (J : MJ) (a1 : Int32) (a2 : Int32) : Option (Int32 × MI × MJ) := bnd (w2 I 0 0 (0 : Int32)) fun I1 =>
 bo1 (f_X8_isRam I1 J a1) fun r3 =>
 (if r3 = (0 : Int32) then some ((-1 : Int32), I1, J)
 else bo1 (f_X8_in a2 (0 : Int32) (255 : Int32)) fun r5 =>
 (if r5 = (0 : Int32) then some ((-1 : Int32), I1, J)
 else bo3 (f_X8_isFit I1 J a1 a2) fun r9 I7 J8 =>
 (if r9 = (0 : Int32) then some ((0 : Int32), I7, J8)
 else some ((1 : Int32), I7, J8))))
def LB_X8_ails_144 (kk104 : MI → MJ → Int32 → Int32 → Int32 → Int32 → Int32 → Option (Int32 × MI × MJ)) (kk144 : MI → MJ → Int32 → Int32 → Int32 → Int32 → Int32 → Int32 → Int32 → Option (Int32 × MI × MJ)) (I : MI) (J : MJ) (x1 : Int32) (x3 : Int32) (x5 : Int32) (x6 : Int32) (x7 : Int32) (x8 : Int32) (x9 : Int32) : Option (Int32 × MI × MJ) := (if (256 : Int32) ≤ x9 then (if x6 ≤ x8 then bnd (x7 + (1 : Int32)) fun v1 =>
 kk104 I J x1 x3 x5 x6 v1
 else bnd (x7 + (1 : Int32)) fun v2 =>
 kk104 I J x1 x3 x7 x8 v2)
 else bo3 (f_X8_isFit I J x1 x9) fun r6 I4 J5 =>
 (if r6 = (0 : Int32) then bnd (x9 + (1 : Int32)) fun v7 =>
 kk144 I4 J5 x1 x3 x5 x6 x7 x8 v7
 else bo1 (f_X8_valueOf x9 x7) fun r9 =>
 chk (inb r9 4) (chk (inb r9 4) (bnd (w2 I4 14 r9.toNatClampNeg ((I4 14 r9.toNatClampNeg) + (1 : Int32))) fun I12 =>
 chk (inb r9 4) ((if (I12 14 r9.toNatClampNeg) ≤ x8 then bnd (x9 + (1 : Int32)) fun v14 =>
 kk144 I12 J5 x1 x3 x5 x6 x7 x8 v14
 else chk (inb r9 4) (bnd ((I12 14 r9.toNatClampNeg)) fun v16 =>
 bnd (x9 + (1 : Int32)) fun v17 =>
 kk144 I12 J5 x1 x3 x5 x6 x7 v16 v17)))))))
def LP_X8_ails_144 (kk104 : MI → MJ → Int32 → Int32 → Int32 → Int32 → Int32 → Option (Int32 × MI × MJ)) : Nat → MI → MJ → Int32 → Int32 → Int32 → Int32 → Int32 → Int32 → Int32 → Option (Int32 × MI × MJ)
  | 0, _, _, _, _, _, _, _, _, _ => none
  | n + 1, I, J, x1, x3, x5, x6, x7, x8, x9 => LB_X8_ails_144 kk104 (fun I J x1 x3 x5 x6 x7 x8 x9 => LP_X8_ails_144 kk104 n I J x1 x3 x5 x6 x7 x8 x9) I J x1 x3 x5 x6 x7 x8 x9
def LB_X8_ails_118 (kk104 : MI → MJ → Int32 → Int32 → Int32 → Int32 → Int32 → Option (Int32 × MI × MJ)) (kk118 : MI → MJ → Int32 → Int32 → Int32 → Int32 → Int32 → Int32 → Option (Int32 × MI × MJ)) (I : MI) (J : MJ) (x1 : Int32) (x3 : Int32) (x5 : Int32) (x6 : Int32) (x7 : Int32) (x8 : Int32) : Option (Int32 × MI × MJ) := (if (4 : Int32) ≤ x8 then LP_X8_ails_144 kk104 FU I J x1 x3 x5 x6 x7 (0 : Int32) (0 : Int32)
 else chk (inb x8 4) (bnd (w2 I 14 x8.toNatClampNeg (0 : Int32)) fun I2 =>
 bnd (x8 + (1 : Int32)) fun v3 =>
 kk118 I2 J x1 x3 x5 x6 x7 v3))
def LP_X8_ails_118 (kk104 : MI → MJ → Int32 → Int32 → Int32 → Int32 → Int32 → Option (Int32 × MI × MJ)) : Nat → MI → MJ → Int32 → Int32 → Int32 → Int32 → Int32 → Int32 → Option (Int32 × MI × MJ)
  | 0, _, _, _, _, _, _, _, _ => none
  | n + 1, I, J, x1, x3, x5, x6, x7, x8 => LB_X8_ails_118 kk104 (fun I J x1 x3 x5 x6 x7 x8 => LP_X8_ails_118 kk104 n I J x1 x3 x5 x6 x7 x8) I J x1 x3 x5 x6 x7 x8
def LB_X8_ails_104 (kk104 : MI → MJ → Int32 → Int32 → Int32 → Int32 → Int32 → Option (Int32 × MI × MJ)) (I : MI) (J : MJ) (x1 : Int32) (x3 : Int32) (x5 : Int32) (x6 : Int32) (x7 : Int32) : Option (Int32 × MI × MJ) := (if (4 : Int32) ≤ x7 then some (x5, I, J)
 else (if x3 ≤ (1 : Int32) then some (x5, I, J)
 else LP_X8_ails_118 kk104 FU I J x1 x3 x5 x6 x7 (0 : Int32)))
def LP_X8_ails_104 : Nat → MI → MJ → Int32 → Int32 → Int32 → Int32 → Int32 → Option (Int32 × MI × MJ)
  | 0, _, _, _, _, _, _, _ => none
  | n + 1, I, J, x1, x3, x5, x6, x7 => LB_X8_ails_104 (fun I J x1 x3 x5 x6 x7 => LP_X8_ails_104 n I J x1 x3 x5 x6 x7) I J x1 x3 x5 x6 x7
def LB_X8_ails_33 (kk33 : MI → MJ → Int32 → Int32 → Int32 → Int32 → Int32 → Option (Int32 × MI × MJ)) (I : MI) (J : MJ) (x1 : Int32) (x2 : Int32) (x3 : Int32) (x4 : Int32) (x5 : Int32) : Option (Int32 × MI × MJ) := (if (256 : Int32) ≤ x5 then (if (2 : Int32) ≤ x2 then LP_X8_ails_104 FU I J x1 x3 (-9 : Int32) (1000 : Int32) (0 : Int32)
 else (if x2 = (0 : Int32) then some (x3, I, J)
 else some (x4, I, J)))
 else bo3 (f_X8_isFit I J x1 x5) fun r4 I2 J3 =>
 (if r4 = (0 : Int32) then bnd (x5 + (1 : Int32)) fun v5 =>
 kk33 I2 J3 x1 x2 x3 x4 v5
 else bnd (x3 + (1 : Int32)) fun v6 =>
 (if x4 = (-9 : Int32) then bnd (x5 + (1 : Int32)) fun v8 =>
 kk33 I2 J3 x1 x2 v6 x5 v8
 else bnd (x5 + (1 : Int32)) fun v7 =>
 kk33 I2 J3 x1 x2 v6 x4 v7)))
def LP_X8_ails_33 : Nat → MI → MJ → Int32 → Int32 → Int32 → Int32 → Int32 → Option (Int32 × MI × MJ)
  | 0, _, _, _, _, _, _, _ => none
  | n + 1, I, J, x1, x2, x3, x4, x5 => LB_X8_ails_33 (fun I J x1 x2 x3 x4 x5 => LP_X8_ails_33 n I J x1 x2 x3 x4 x5) I J x1 x2 x3 x4 x5
def f_X8_ails (I : MI) (J : MJ) (a1 : Int32) (a2 : Int32) : Option (Int32 × MI × MJ) := bnd (w2 I 0 0 (0 : Int32)) fun I1 =>
 bo1 (f_X8_isRam I1 J a1) fun r3 =>
 (if r3 = (0 : Int32) then some ((-1 : Int32), I1, J)
 else bo1 (f_X8_in a2 (0 : Int32) (2 : Int32)) fun r5 =>
 (if r5 = (0 : Int32) then some ((-1 : Int32), I1, J)
 else LP_X8_ails_33 FU I1 J a1 a2 (0 : Int32) (-9 : Int32) (0 : Int32)))
def LB_X8_sure_30 (kk30 : MI → MJ → Int32 → Int32 → Int32 → Int32 → Option (Int32 × MI × MJ)) (I : MI) (J : MJ) (x1 : Int32) (x2 : Int32) (x3 : Int32) (x4 : Int32) : Option (Int32 × MI × MJ) := (if (256 : Int32) ≤ x4 then some (x3, I, J)
 else bo3 (f_X8_isFit I J x1 x4) fun r4 I2 J3 =>
 (if r4 = (0 : Int32) then bnd (x4 + (1 : Int32)) fun v5 =>
 kk30 I2 J3 x1 x2 x3 v5
 else (if x3 = (-9 : Int32) then bo1 (f_X8_valueOf x4 x2) fun r7 =>
 bnd (x4 + (1 : Int32)) fun v8 =>
 kk30 I2 J3 x1 x2 r7 v8
 else bo1 (f_X8_valueOf x4 x2) fun r10 =>
 (if x3 = r10 then bo1 (f_X8_valueOf x4 x2) fun r12 =>
 bnd (x4 + (1 : Int32)) fun v13 =>
 kk30 I2 J3 x1 x2 r12 v13
 else some ((-9 : Int32), I2, J3)))))
def LP_X8_sure_30 : Nat → MI → MJ → Int32 → Int32 → Int32 → Int32 → Option (Int32 × MI × MJ)
  | 0, _, _, _, _, _, _ => none
  | n + 1, I, J, x1, x2, x3, x4 => LB_X8_sure_30 (fun I J x1 x2 x3 x4 => LP_X8_sure_30 n I J x1 x2 x3 x4) I J x1 x2 x3 x4
def f_X8_sure (I : MI) (J : MJ) (a1 : Int32) (a2 : Int32) : Option (Int32 × MI × MJ) := bnd (w2 I 0 0 (0 : Int32)) fun I1 =>
 bo1 (f_X8_isRam I1 J a1) fun r3 =>
 (if r3 = (0 : Int32) then some ((-1 : Int32), I1, J)
 else bo1 (f_X8_in a2 (0 : Int32) (3 : Int32)) fun r5 =>
 (if r5 = (0 : Int32) then some ((-1 : Int32), I1, J)
 else LP_X8_sure_30 FU I1 J a1 a2 (-9 : Int32) (0 : Int32)))
def f_X8_count (I : MI) (J : MJ) (a1 : Int32) : Option (Int32 × MI × MJ) := bnd (w2 I 0 0 (0 : Int32)) fun I1 =>
 (if a1 = (0 : Int32) then some ((I1 0 2), I1, J)
 else (if a1 = (1 : Int32) then some ((I1 0 14), I1, J)
 else (if a1 = (2 : Int32) then some ((I1 0 21), I1, J)
 else (if a1 = (3 : Int32) then some ((I1 0 31), I1, J)
 else (if a1 = (4 : Int32) then some ((I1 0 27), I1, J)
 else (if a1 = (5 : Int32) then some ((I1 0 28), I1, J)
 else (if a1 = (6 : Int32) then some ((I1 0 29), I1, J)
 else (if a1 = (7 : Int32) then some ((I1 0 20), I1, J)
 else some ((-1 : Int32), I1, J)))))))))
def f_X8_trace (I : MI) (J : MJ) : Option (Int64 × MI × MJ) := bnd (w2 I 0 0 (0 : Int32)) fun I1 =>
 some ((J 0 1), I1, J)
end
