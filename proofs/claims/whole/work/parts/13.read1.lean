theorem e_X4_readHead_87 {d : Nat} (hd : d = 11 ∨ d = 18) (I : zI) (L : zL) : zrun zZ kX4_readHead (87, [none, none, none], [], (hp I L), 0, 0) = (some (some (.int (1 : Int32)), (hp I L), 0, 0)) := by
  rcases hd with rfl | rfl
  · exact (zrun_go zZ [0, 5, 13, 23, 26, 43, 48, 57, 65, 83, 87] 400 _ _).trans rfl
  · exact (zrun_go zZ [0, 5, 13, 23, 26, 43, 48, 57, 65, 83, 87] 400 _ _).trans rfl
theorem c_X4_readFeast {d : Nat} (hd : d = 11 ∨ d = 18) (I : zI) (L : zL) : zcall zZ nX4_readFeast [.ref 5, .ref d] (hp I L) = (zrun zZ kX4_readFeast (0, [some (.ref 5), some (.ref d), none, none, none], [], (hp I L), 0, 0)).map (fun r => (r.1, r.2.1)) := by
  rcases hd with rfl | rfl
  · exact (zcall_ent (M := kX4_readFeast) (S := (0, [some (.ref 5), some (.ref 11), none, none, none], [], (hp I L), 0, 0)) rfl rfl).trans rfl
  · exact (zcall_ent (M := kX4_readFeast) (S := (0, [some (.ref 5), some (.ref 18), none, none, none], [], (hp I L), 0, 0)) rfl rfl).trans rfl
theorem e_X4_readFeast_0 {d : Nat} (hd : d = 11 ∨ d = 18) (I : zI) (L : zL) : zrun zZ kX4_readFeast (0, [some (.ref 5), some (.ref d), none, none, none], [], (hp I L), 0, 0) = (cond (decide ((I d 8) < (2 : Int32))) ((zcall zZ nX4_step [.ref 5] (hp I L)).bind (fun q => zrun zZ kX4_readFeast (20, [some (.ref 5), some (.ref d), some (.int (I d 8)), none, none], q.1.toList ++ [], q.2, 0, 0))) ((zcall zZ nX4_fail [.ref 5, .int (3 : Int32)] (hp I L)).bind (fun q => zrun zZ kX4_readFeast (15, [none, none, none, none, none], q.1.toList ++ [], q.2, 0, 0)))) := by
  rcases hd with rfl | rfl
  · exact (zrun_go zZ [0, 15, 20, 39, 77, 81, 86, 91, 96] 400 _ _).trans rfl
  · exact (zrun_go zZ [0, 15, 20, 39, 77, 81, 86, 91, 96] 400 _ _).trans rfl
theorem e_X4_readFeast_20 {d : Nat} (hd : d = 11 ∨ d = 18) (I : zI) (L : zL) (x2 : Int32) : zrun zZ kX4_readFeast (20, [some (.ref 5), some (.ref d), some (.int x2), none, none], [], (hp I L), 0, 0) = (cond (zin (I 5 9) 601) (cond (!decide ((19 : Int32) < (I 6 ((I 5 9)).toNatClampNeg))) (cond (zin (I 5 9) 601) (cond (zin (I 5 9) 601) (cond (!decide ((I 6 ((I 5 9)).toNatClampNeg) = (19 : Int32))) (zrun zZ kX4_readFeast (81, [some (.ref 5), none, none, none, none], [], (hp I L), 0, 0)) (cond (decide ((lg_cmp (L 8 ((I 5 9)).toNatClampNeg) (-1 : Int64)) = (0 : Int32))) (zrun zZ kX4_readFeast (81, [some (.ref 5), none, none, none, none], [], (hp I L), 0, 0)) ((zcall zZ nX1_feastNamed [.ref d, .long (L 8 ((I 5 9)).toNatClampNeg)] (hp I L)).bind (fun q => zrun zZ kX4_readFeast (77, [some (.ref 5), some (.ref d), some (.int x2), some (.long (L 8 ((I 5 9)).toNatClampNeg)), none], q.1.toList ++ [], q.2, 0, 0))))) none) none) ((zcall zZ nX4_fail [.ref 5, .int (1 : Int32)] (hp I L)).bind (fun q => zrun zZ kX4_readFeast (39, [none, none, none, none, none], q.1.toList ++ [], q.2, 0, 0)))) none) := by
  rcases hd with rfl | rfl
  · exact (zrun_go zZ [0, 15, 20, 39, 77, 81, 86, 91, 96] 400 _ _).trans rfl
  · exact (zrun_go zZ [0, 15, 20, 39, 77, 81, 86, 91, 96] 400 _ _).trans rfl
theorem e_X4_readFeast_15 {d : Nat} (hd : d = 11 ∨ d = 18) (I : zI) (L : zL) (xs0 : Int32) : zrun zZ kX4_readFeast (15, [none, none, none, none, none], [.int xs0], (hp I L), 0, 0) = (cond (znar .boolean xs0 && true && true) (some (some (.int xs0), (hp I L), 0, 0)) none) := by
  rcases hd with rfl | rfl
  · exact (zrun_go zZ [0, 15, 20, 39, 77, 81, 86, 91, 96] 400 _ _).trans rfl
  · exact (zrun_go zZ [0, 15, 20, 39, 77, 81, 86, 91, 96] 400 _ _).trans rfl
theorem e_X4_readFeast_81 {d : Nat} (hd : d = 11 ∨ d = 18) (I : zI) (L : zL) : zrun zZ kX4_readFeast (81, [some (.ref 5), none, none, none, none], [], (hp I L), 0, 0) = ((zcall zZ nX4_fail [.ref 5, .int (2 : Int32)] (hp I L)).bind (fun q => zrun zZ kX4_readFeast (86, [none, none, none, none, none], q.1.toList ++ [], q.2, 0, 0))) := by
  rcases hd with rfl | rfl
  · exact (zrun_go zZ [0, 15, 20, 39, 77, 81, 86, 91, 96] 400 _ _).trans rfl
  · exact (zrun_go zZ [0, 15, 20, 39, 77, 81, 86, 91, 96] 400 _ _).trans rfl
theorem e_X4_readFeast_77 {d : Nat} (hd : d = 11 ∨ d = 18) (I : zI) (L : zL) (x2 : Int32) (y3 : Int64) (xs0 : Int32) : zrun zZ kX4_readFeast (77, [some (.ref 5), some (.ref d), some (.int x2), some (.long y3), none], [.int xs0], (hp I L), 0, 0) = (cond (decide (xs0 = (-1 : Int32))) ((zcall zZ nX4_step [.ref 5] (hp I L)).bind (fun q => zrun zZ kX4_readFeast (91, [some (.ref 5), some (.ref d), some (.int x2), some (.long y3), none], q.1.toList ++ [], q.2, 0, 0))) (zrun zZ kX4_readFeast (81, [some (.ref 5), none, none, none, none], [], (hp I L), 0, 0))) := by
  rcases hd with rfl | rfl
  · exact (zrun_go zZ [0, 15, 20, 39, 77, 81, 86, 91, 96] 400 _ _).trans rfl
  · exact (zrun_go zZ [0, 15, 20, 39, 77, 81, 86, 91, 96] 400 _ _).trans rfl
theorem e_X4_readFeast_39 {d : Nat} (hd : d = 11 ∨ d = 18) (I : zI) (L : zL) (xs0 : Int32) : zrun zZ kX4_readFeast (39, [none, none, none, none, none], [.int xs0], (hp I L), 0, 0) = (cond (znar .boolean xs0 && true && true) (some (some (.int xs0), (hp I L), 0, 0)) none) := by
  rcases hd with rfl | rfl
  · exact (zrun_go zZ [0, 15, 20, 39, 77, 81, 86, 91, 96] 400 _ _).trans rfl
  · exact (zrun_go zZ [0, 15, 20, 39, 77, 81, 86, 91, 96] 400 _ _).trans rfl
theorem e_X4_readFeast_86 {d : Nat} (hd : d = 11 ∨ d = 18) (I : zI) (L : zL) (xs0 : Int32) : zrun zZ kX4_readFeast (86, [none, none, none, none, none], [.int xs0], (hp I L), 0, 0) = (cond (znar .boolean xs0 && true && true) (some (some (.int xs0), (hp I L), 0, 0)) none) := by
  rcases hd with rfl | rfl
  · exact (zrun_go zZ [0, 15, 20, 39, 77, 81, 86, 91, 96] 400 _ _).trans rfl
  · exact (zrun_go zZ [0, 15, 20, 39, 77, 81, 86, 91, 96] 400 _ _).trans rfl
theorem e_X4_readFeast_91 {d : Nat} (hd : d = 11 ∨ d = 18) (I : zI) (L : zL) (x2 : Int32) (y3 : Int64) : zrun zZ kX4_readFeast (91, [some (.ref 5), some (.ref d), some (.int x2), some (.long y3), none], [], (hp I L), 0, 0) = ((zcall zZ nX4_readFeastDays [.ref 5, .ref d] (hp I L)).bind (fun q => zrun zZ kX4_readFeast (96, [some (.ref 5), some (.ref d), some (.int x2), some (.long y3), none], q.1.toList ++ [], q.2, 0, 0))) := by
  rcases hd with rfl | rfl
  · exact (zrun_go zZ [0, 15, 20, 39, 77, 81, 86, 91, 96] 400 _ _).trans rfl
  · exact (zrun_go zZ [0, 15, 20, 39, 77, 81, 86, 91, 96] 400 _ _).trans rfl
theorem e_X4_readFeast_96 {d : Nat} (hd : d = 11 ∨ d = 18) (I : zI) (L : zL) (x2 : Int32) (y3 : Int64) (xs0 : Int32) : zrun zZ kX4_readFeast (96, [some (.ref 5), some (.ref d), some (.int x2), some (.long y3), none], [.int xs0], (hp I L), 0, 0) = (cond (!decide (xs0 = (0 : Int32))) (cond (zin x2 2) (cond (zin x2 2) (some (some (.int (1 : Int32)), (hp (zup (zup I (d + 3) (x2).toNatClampNeg (I 5 14)) d 8 ((I d 8) + (1 : Int32))) (zup L (d + 2) (x2).toNatClampNeg y3)), 0, 0)) none) none) (some (some (.int (0 : Int32)), (hp I L), 0, 0))) := by
  rcases hd with rfl | rfl
  · exact (zrun_go zZ [0, 15, 20, 39, 77, 81, 86, 91, 96] 400 _ _).trans rfl
  · exact (zrun_go zZ [0, 15, 20, 39, 77, 81, 86, 91, 96] 400 _ _).trans rfl
theorem c_X4_readFeastDays {d : Nat} (hd : d = 11 ∨ d = 18) (I : zI) (L : zL) : zcall zZ nX4_readFeastDays [.ref 5, .ref d] (hp I L) = (zrun zZ kX4_readFeastDays (0, [some (.ref 5), some (.ref d), none, none], [], (hp I L), 0, 0)).map (fun r => (r.1, r.2.1)) := by
  rcases hd with rfl | rfl
  · exact (zcall_ent (M := kX4_readFeastDays) (S := (0, [some (.ref 5), some (.ref 11), none, none], [], (hp I L), 0, 0)) rfl rfl).trans rfl
  · exact (zcall_ent (M := kX4_readFeastDays) (S := (0, [some (.ref 5), some (.ref 18), none, none], [], (hp I L), 0, 0)) rfl rfl).trans rfl
theorem e_X4_readFeastDays_0 {d : Nat} (hd : d = 11 ∨ d = 18) (I : zI) (L : zL) : zrun zZ kX4_readFeastDays (0, [some (.ref 5), some (.ref d), none, none], [], (hp I L), 0, 0) = (zrun zZ kX4_readFeastDays (7, [some (.ref 5), some (.ref d), some (.int (0 : Int32)), none], [], (hp (zup I 5 14 (0 : Int32)) L), 0, 0)) := by
  rcases hd with rfl | rfl
  · exact (zrun_go zZ [0, 7, 33, 44, 76, 91, 97] 400 _ _).trans rfl
  · exact (zrun_go zZ [0, 7, 33, 44, 76, 91, 97] 400 _ _).trans rfl
theorem e_X4_readFeastDays_7 {d : Nat} (hd : d = 11 ∨ d = 18) (I : zI) (L : zL) (x2 : Int32) : zrun zZ kX4_readFeastDays (7, [some (.ref 5), some (.ref d), some (.int x2), none], [], (hp I L), 0, 0) = (cond (decide ((I d 6) < x2)) (zrun zZ kX4_readFeastDays (97, [none, none, none, none], [], (hp I L), 0, 0)) (cond (decide (x2 = (0 : Int32))) (zrun zZ kX4_readFeastDays (33, [some (.ref 5), some (.ref d), some (.int x2), none], [], (hp I L), 0, 0)) (cond (zin (I 5 9) 601) (cond (!decide ((I 6 ((I 5 9)).toNatClampNeg) = (20 : Int32))) (zrun zZ kX4_readFeastDays (97, [none, none, none, none], [], (hp I L), 0, 0)) (zrun zZ kX4_readFeastDays (33, [some (.ref 5), some (.ref d), some (.int x2), none], [], (hp I L), 0, 0))) none))) := by
  rcases hd with rfl | rfl
  · exact (zrun_go zZ [0, 7, 33, 44, 76, 91, 97] 400 _ _).trans rfl
  · exact (zrun_go zZ [0, 7, 33, 44, 76, 91, 97] 400 _ _).trans rfl
theorem e_X4_readFeastDays_97 {d : Nat} (hd : d = 11 ∨ d = 18) (I : zI) (L : zL) : zrun zZ kX4_readFeastDays (97, [none, none, none, none], [], (hp I L), 0, 0) = (some (some (.int (1 : Int32)), (hp I L), 0, 0)) := by
  rcases hd with rfl | rfl
  · exact (zrun_go zZ [0, 7, 33, 44, 76, 91, 97] 400 _ _).trans rfl
  · exact (zrun_go zZ [0, 7, 33, 44, 76, 91, 97] 400 _ _).trans rfl
theorem e_X4_readFeastDays_33 {d : Nat} (hd : d = 11 ∨ d = 18) (I : zI) (L : zL) (x2 : Int32) : zrun zZ kX4_readFeastDays (33, [some (.ref 5), some (.ref d), some (.int x2), none], [], (hp I L), 0, 0) = ((zcall zZ nX4_seeNumber [.ref 5, .int (0 : Int32), .int ((I d 6) - (1 : Int32))] (hp I L)).bind (fun q => zrun zZ kX4_readFeastDays (44, [some (.ref 5), some (.ref d), some (.int x2), none], q.1.toList ++ [], q.2, 0, 0))) := by
  rcases hd with rfl | rfl
  · exact (zrun_go zZ [0, 7, 33, 44, 76, 91, 97] 400 _ _).trans rfl
  · exact (zrun_go zZ [0, 7, 33, 44, 76, 91, 97] 400 _ _).trans rfl
theorem e_X4_readFeastDays_44 {d : Nat} (hd : d = 11 ∨ d = 18) (I : zI) (L : zL) (x2 : Int32) (xs0 : Int32) : zrun zZ kX4_readFeastDays (44, [some (.ref 5), some (.ref d), some (.int x2), none], [.int xs0], (hp I L), 0, 0) = (cond (!decide (xs0 = (0 : Int32))) (cond (zin (I 5 9) 601) (cond (decide (((I 5 14) &&& ((1 : Int32) <<< (((L 8 ((I 5 9)).toNatClampNeg)).toInt32 &&& 31))) = (0 : Int32))) ((zcall zZ nX4_step [.ref 5] (hp (zup I 5 14 ((I 5 14) ||| ((1 : Int32) <<< (((L 8 ((I 5 9)).toNatClampNeg)).toInt32 &&& 31)))) L)).bind (fun q => zrun zZ kX4_readFeastDays (91, [some (.ref 5), some (.ref d), some (.int x2), none], q.1.toList ++ [], q.2, 0, 0))) ((zcall zZ nX4_fail [.ref 5, .int (2 : Int32)] (hp I L)).bind (fun q => zrun zZ kX4_readFeastDays (76, [none, none, none, none], q.1.toList ++ [], q.2, 0, 0)))) none) (some (some (.int (0 : Int32)), (hp I L), 0, 0))) := by
  rcases hd with rfl | rfl
  · exact (zrun_go zZ [0, 7, 33, 44, 76, 91, 97] 400 _ _).trans rfl
  · exact (zrun_go zZ [0, 7, 33, 44, 76, 91, 97] 400 _ _).trans rfl
theorem e_X4_readFeastDays_91 {d : Nat} (hd : d = 11 ∨ d = 18) (I : zI) (L : zL) (x2 : Int32) : zrun zZ kX4_readFeastDays (91, [some (.ref 5), some (.ref d), some (.int x2), none], [], (hp I L), 0, 0) = (zrun zZ kX4_readFeastDays (7, [some (.ref 5), some (.ref d), some (.int (x2 + (1 : Int32))), none], [], (hp I L), 0, 0)) := by
  rcases hd with rfl | rfl
  · exact (zrun_go zZ [0, 7, 33, 44, 76, 91, 97] 400 _ _).trans rfl
  · exact (zrun_go zZ [0, 7, 33, 44, 76, 91, 97] 400 _ _).trans rfl
theorem e_X4_readFeastDays_76 {d : Nat} (hd : d = 11 ∨ d = 18) (I : zI) (L : zL) (xs0 : Int32) : zrun zZ kX4_readFeastDays (76, [none, none, none, none], [.int xs0], (hp I L), 0, 0) = (cond (znar .boolean xs0 && true && true) (some (some (.int xs0), (hp I L), 0, 0)) none) := by
  rcases hd with rfl | rfl
  · exact (zrun_go zZ [0, 7, 33, 44, 76, 91, 97] 400 _ _).trans rfl
  · exact (zrun_go zZ [0, 7, 33, 44, 76, 91, 97] 400 _ _).trans rfl
theorem c_X4_readTrain {d : Nat} (hd : d = 11 ∨ d = 18) (I : zI) (L : zL) : zcall zZ nX4_readTrain [.ref 5, .ref d] (hp I L) = (zrun zZ kX4_readTrain (0, [some (.ref 5), some (.ref d), none], [], (hp I L), 0, 0)).map (fun r => (r.1, r.2.1)) := by
  rcases hd with rfl | rfl
  · exact (zcall_ent (M := kX4_readTrain) (S := (0, [some (.ref 5), some (.ref 11), none], [], (hp I L), 0, 0)) rfl rfl).trans rfl
  · exact (zcall_ent (M := kX4_readTrain) (S := (0, [some (.ref 5), some (.ref 18), none], [], (hp I L), 0, 0)) rfl rfl).trans rfl
theorem e_X4_readTrain_0 {d : Nat} (hd : d = 11 ∨ d = 18) (I : zI) (L : zL) : zrun zZ kX4_readTrain (0, [some (.ref 5), some (.ref d), none], [], (hp I L), 0, 0) = (cond (decide ((I d 9) < (6 : Int32))) ((zcall zZ nX4_step [.ref 5] (hp I L)).bind (fun q => zrun zZ kX4_readTrain (21, [some (.ref 5), some (.ref d), some (.int (I d 9))], q.1.toList ++ [], q.2, 0, 0))) ((zcall zZ nX4_fail [.ref 5, .int (3 : Int32)] (hp I L)).bind (fun q => zrun zZ kX4_readTrain (16, [none, none, none], q.1.toList ++ [], q.2, 0, 0)))) := by
  rcases hd with rfl | rfl
  · exact (zrun_go zZ [0, 16, 21, 28, 53, 58, 69, 72, 94, 100, 108, 111] 400 _ _).trans rfl
  · exact (zrun_go zZ [0, 16, 21, 28, 53, 58, 69, 72, 94, 100, 108, 111] 400 _ _).trans rfl
theorem e_X4_readTrain_21 {d : Nat} (hd : d = 11 ∨ d = 18) (I : zI) (L : zL) (x2 : Int32) : zrun zZ kX4_readTrain (21, [some (.ref 5), some (.ref d), some (.int x2)], [], (hp I L), 0, 0) = ((zcall zZ nX4_seeNumber [.ref 5, .int (0 : Int32), .int (9 : Int32)] (hp I L)).bind (fun q => zrun zZ kX4_readTrain (28, [some (.ref 5), some (.ref d), some (.int x2)], q.1.toList ++ [], q.2, 0, 0))) := by
  rcases hd with rfl | rfl
  · exact (zrun_go zZ [0, 16, 21, 28, 53, 58, 69, 72, 94, 100, 108, 111] 400 _ _).trans rfl
  · exact (zrun_go zZ [0, 16, 21, 28, 53, 58, 69, 72, 94, 100, 108, 111] 400 _ _).trans rfl
theorem e_X4_readTrain_16 {d : Nat} (hd : d = 11 ∨ d = 18) (I : zI) (L : zL) (xs0 : Int32) : zrun zZ kX4_readTrain (16, [none, none, none], [.int xs0], (hp I L), 0, 0) = (cond (znar .boolean xs0 && true && true) (some (some (.int xs0), (hp I L), 0, 0)) none) := by
  rcases hd with rfl | rfl
  · exact (zrun_go zZ [0, 16, 21, 28, 53, 58, 69, 72, 94, 100, 108, 111] 400 _ _).trans rfl
  · exact (zrun_go zZ [0, 16, 21, 28, 53, 58, 69, 72, 94, 100, 108, 111] 400 _ _).trans rfl
theorem e_X4_readTrain_28 {d : Nat} (hd : d = 11 ∨ d = 18) (I : zI) (L : zL) (x2 : Int32) (xs0 : Int32) : zrun zZ kX4_readTrain (28, [some (.ref 5), some (.ref d), some (.int x2)], [.int xs0], (hp I L), 0, 0) = (cond (!decide (xs0 = (0 : Int32))) (cond (zin (I 5 9) 601) (cond (zin x2 6) ((zcall zZ nX4_step [.ref 5] (hp (zup I (d + 4) (x2).toNatClampNeg ((L 8 ((I 5 9)).toNatClampNeg)).toInt32) L)).bind (fun q => zrun zZ kX4_readTrain (53, [some (.ref 5), some (.ref d), some (.int x2)], q.1.toList ++ [], q.2, 0, 0))) none) none) (some (some (.int (0 : Int32)), (hp I L), 0, 0))) := by
  rcases hd with rfl | rfl
  · exact (zrun_go zZ [0, 16, 21, 28, 53, 58, 69, 72, 94, 100, 108, 111] 400 _ _).trans rfl
  · exact (zrun_go zZ [0, 16, 21, 28, 53, 58, 69, 72, 94, 100, 108, 111] 400 _ _).trans rfl
theorem e_X4_readTrain_53 {d : Nat} (hd : d = 11 ∨ d = 18) (I : zI) (L : zL) (x2 : Int32) : zrun zZ kX4_readTrain (53, [some (.ref 5), some (.ref d), some (.int x2)], [], (hp I L), 0, 0) = ((zcall zZ nX4_take [.ref 5, .int (5 : Int32)] (hp I L)).bind (fun q => zrun zZ kX4_readTrain (58, [some (.ref 5), some (.ref d), some (.int x2)], q.1.toList ++ [], q.2, 0, 0))) := by
  rcases hd with rfl | rfl
  · exact (zrun_go zZ [0, 16, 21, 28, 53, 58, 69, 72, 94, 100, 108, 111] 400 _ _).trans rfl
  · exact (zrun_go zZ [0, 16, 21, 28, 53, 58, 69, 72, 94, 100, 108, 111] 400 _ _).trans rfl
theorem e_X4_readTrain_58 {d : Nat} (hd : d = 11 ∨ d = 18) (I : zI) (L : zL) (x2 : Int32) (xs0 : Int32) : zrun zZ kX4_readTrain (58, [some (.ref 5), some (.ref d), some (.int x2)], [.int xs0], (hp I L), 0, 0) = (cond (decide (xs0 = (0 : Int32))) (zrun zZ kX4_readTrain (72, [none, none, none], [], (hp I L), 0, 0)) ((zcall zZ nX4_seeNumber [.ref 5, .int (0 : Int32), .int (1439 : Int32)] (hp I L)).bind (fun q => zrun zZ kX4_readTrain (69, [some (.ref 5), some (.ref d), some (.int x2)], q.1.toList ++ [], q.2, 0, 0)))) := by
  rcases hd with rfl | rfl
  · exact (zrun_go zZ [0, 16, 21, 28, 53, 58, 69, 72, 94, 100, 108, 111] 400 _ _).trans rfl
  · exact (zrun_go zZ [0, 16, 21, 28, 53, 58, 69, 72, 94, 100, 108, 111] 400 _ _).trans rfl
theorem e_X4_readTrain_72 {d : Nat} (hd : d = 11 ∨ d = 18) (I : zI) (L : zL) : zrun zZ kX4_readTrain (72, [none, none, none], [], (hp I L), 0, 0) = (some (some (.int (0 : Int32)), (hp I L), 0, 0)) := by
  rcases hd with rfl | rfl
  · exact (zrun_go zZ [0, 16, 21, 28, 53, 58, 69, 72, 94, 100, 108, 111] 400 _ _).trans rfl
  · exact (zrun_go zZ [0, 16, 21, 28, 53, 58, 69, 72, 94, 100, 108, 111] 400 _ _).trans rfl
theorem e_X4_readTrain_69 {d : Nat} (hd : d = 11 ∨ d = 18) (I : zI) (L : zL) (x2 : Int32) (xs0 : Int32) : zrun zZ kX4_readTrain (69, [some (.ref 5), some (.ref d), some (.int x2)], [.int xs0], (hp I L), 0, 0) = (cond (!decide (xs0 = (0 : Int32))) (cond (zin (I 5 9) 601) (cond (zin x2 6) ((zcall zZ nX4_step [.ref 5] (hp (zup I (d + 5) (x2).toNatClampNeg ((L 8 ((I 5 9)).toNatClampNeg)).toInt32) L)).bind (fun q => zrun zZ kX4_readTrain (94, [some (.ref 5), some (.ref d), some (.int x2)], q.1.toList ++ [], q.2, 0, 0))) none) none) (zrun zZ kX4_readTrain (72, [none, none, none], [], (hp I L), 0, 0))) := by
  rcases hd with rfl | rfl
  · exact (zrun_go zZ [0, 16, 21, 28, 53, 58, 69, 72, 94, 100, 108, 111] 400 _ _).trans rfl
  · exact (zrun_go zZ [0, 16, 21, 28, 53, 58, 69, 72, 94, 100, 108, 111] 400 _ _).trans rfl
theorem e_X4_readTrain_94 {d : Nat} (hd : d = 11 ∨ d = 18) (I : zI) (L : zL) (x2 : Int32) : zrun zZ kX4_readTrain (94, [some (.ref 5), some (.ref d), some (.int x2)], [], (hp I L), 0, 0) = ((zcall zZ nX4_take [.ref 5, .int (22 : Int32)] (hp I L)).bind (fun q => zrun zZ kX4_readTrain (100, [some (.ref 5), some (.ref d), some (.int x2)], q.1.toList ++ [], q.2, 0, 0))) := by
  rcases hd with rfl | rfl
  · exact (zrun_go zZ [0, 16, 21, 28, 53, 58, 69, 72, 94, 100, 108, 111] 400 _ _).trans rfl
  · exact (zrun_go zZ [0, 16, 21, 28, 53, 58, 69, 72, 94, 100, 108, 111] 400 _ _).trans rfl
theorem e_X4_readTrain_100 {d : Nat} (hd : d = 11 ∨ d = 18) (I : zI) (L : zL) (x2 : Int32) (xs0 : Int32) : zrun zZ kX4_readTrain (100, [some (.ref 5), some (.ref d), some (.int x2)], [.int xs0], (hp I L), 0, 0) = (cond (decide (xs0 = (0 : Int32))) (zrun zZ kX4_readTrain (111, [none, none, none], [], (hp I L), 0, 0)) ((zcall zZ nX4_readWording [.ref 5, .ref d] (hp I L)).bind (fun q => zrun zZ kX4_readTrain (108, [some (.ref 5), some (.ref d), some (.int x2)], q.1.toList ++ [], q.2, 0, 0)))) := by
  rcases hd with rfl | rfl
  · exact (zrun_go zZ [0, 16, 21, 28, 53, 58, 69, 72, 94, 100, 108, 111] 400 _ _).trans rfl
  · exact (zrun_go zZ [0, 16, 21, 28, 53, 58, 69, 72, 94, 100, 108, 111] 400 _ _).trans rfl
theorem e_X4_readTrain_111 {d : Nat} (hd : d = 11 ∨ d = 18) (I : zI) (L : zL) : zrun zZ kX4_readTrain (111, [none, none, none], [], (hp I L), 0, 0) = (some (some (.int (0 : Int32)), (hp I L), 0, 0)) := by
  rcases hd with rfl | rfl
  · exact (zrun_go zZ [0, 16, 21, 28, 53, 58, 69, 72, 94, 100, 108, 111] 400 _ _).trans rfl
  · exact (zrun_go zZ [0, 16, 21, 28, 53, 58, 69, 72, 94, 100, 108, 111] 400 _ _).trans rfl
theorem e_X4_readTrain_108 {d : Nat} (hd : d = 11 ∨ d = 18) (I : zI) (L : zL) (x2 : Int32) (xs0 : Int32) : zrun zZ kX4_readTrain (108, [some (.ref 5), some (.ref d), some (.int x2)], [.int xs0], (hp I L), 0, 0) = (cond (!decide (xs0 = (0 : Int32))) (cond (zin x2 6) (some (some (.int (1 : Int32)), (hp (zup (zup I (d + 6) (x2).toNatClampNeg (I 5 2)) d 9 ((I d 9) + (1 : Int32))) L), 0, 0)) none) (zrun zZ kX4_readTrain (111, [none, none, none], [], (hp I L), 0, 0))) := by
  rcases hd with rfl | rfl
  · exact (zrun_go zZ [0, 16, 21, 28, 53, 58, 69, 72, 94, 100, 108, 111] 400 _ _).trans rfl
  · exact (zrun_go zZ [0, 16, 21, 28, 53, 58, 69, 72, 94, 100, 108, 111] 400 _ _).trans rfl
theorem c_X4_readWording {d : Nat} (hd : d = 11 ∨ d = 18) (I : zI) (L : zL) : zcall zZ nX4_readWording [.ref 5, .ref d] (hp I L) = (zrun zZ kX4_readWording (0, [some (.ref 5), some (.ref d), none], [], (hp I L), 0, 0)).map (fun r => (r.1, r.2.1)) := by
  rcases hd with rfl | rfl
  · exact (zcall_ent (M := kX4_readWording) (S := (0, [some (.ref 5), some (.ref 11), none], [], (hp I L), 0, 0)) rfl rfl).trans rfl
  · exact (zcall_ent (M := kX4_readWording) (S := (0, [some (.ref 5), some (.ref 18), none], [], (hp I L), 0, 0)) rfl rfl).trans rfl
theorem e_X4_readWording_0 {d : Nat} (hd : d = 11 ∨ d = 18) (I : zI) (L : zL) : zrun zZ kX4_readWording (0, [some (.ref 5), some (.ref d), none], [], (hp I L), 0, 0) = (cond (zin (I 5 9) 601) (cond (!decide ((I 6 ((I 5 9)).toNatClampNeg) = (6 : Int32))) ((zcall zZ nX4_readSpans [.ref 5, .ref d] (hp (zup I 5 2 (0 : Int32)) L)).bind (fun q => zrun zZ kX4_readWording (36, [some (.ref 5), some (.ref d), some (.int (I 5 9))], q.1.toList ++ [], q.2, 0, 0))) ((zcall zZ nX4_step [.ref 5] (hp (zup I 5 2 (0 : Int32)) L)).bind (fun q => zrun zZ kX4_readWording (28, [some (.ref 5), none, some (.int (I 5 9))], q.1.toList ++ [], q.2, 0, 0)))) none) := by
  rcases hd with rfl | rfl
  · exact (zrun_go zZ [0, 28, 36, 44, 47, 62, 63] 400 _ _).trans rfl
  · exact (zrun_go zZ [0, 28, 36, 44, 47, 62, 63] 400 _ _).trans rfl
theorem e_X4_readWording_36 {d : Nat} (hd : d = 11 ∨ d = 18) (I : zI) (L : zL) (x2 : Int32) (xs0 : Int32) : zrun zZ kX4_readWording (36, [some (.ref 5), some (.ref d), some (.int x2)], [.int xs0], (hp I L), 0, 0) = (cond (decide (xs0 = (0 : Int32))) (zrun zZ kX4_readWording (47, [none, none, none], [], (hp I L), 0, 0)) ((zcall zZ nX4_readExceptions [.ref 5, .ref d] (hp I L)).bind (fun q => zrun zZ kX4_readWording (44, [some (.ref 5), none, some (.int x2)], q.1.toList ++ [], q.2, 0, 0)))) := by
  rcases hd with rfl | rfl
  · exact (zrun_go zZ [0, 28, 36, 44, 47, 62, 63] 400 _ _).trans rfl
  · exact (zrun_go zZ [0, 28, 36, 44, 47, 62, 63] 400 _ _).trans rfl
theorem e_X4_readWording_28 {d : Nat} (hd : d = 11 ∨ d = 18) (I : zI) (L : zL) (x2 : Int32) : zrun zZ kX4_readWording (28, [some (.ref 5), none, some (.int x2)], [], (hp I L), 0, 0) = (zrun zZ kX4_readWording (63, [some (.ref 5), none, some (.int x2)], [], (hp I L), 0, 0)) := by
  rcases hd with rfl | rfl
  · exact (zrun_go zZ [0, 28, 36, 44, 47, 62, 63] 400 _ _).trans rfl
  · exact (zrun_go zZ [0, 28, 36, 44, 47, 62, 63] 400 _ _).trans rfl
theorem e_X4_readWording_47 {d : Nat} (hd : d = 11 ∨ d = 18) (I : zI) (L : zL) : zrun zZ kX4_readWording (47, [none, none, none], [], (hp I L), 0, 0) = (some (some (.int (0 : Int32)), (hp I L), 0, 0)) := by
  rcases hd with rfl | rfl
  · exact (zrun_go zZ [0, 28, 36, 44, 47, 62, 63] 400 _ _).trans rfl
  · exact (zrun_go zZ [0, 28, 36, 44, 47, 62, 63] 400 _ _).trans rfl
theorem e_X4_readWording_44 {d : Nat} (hd : d = 11 ∨ d = 18) (I : zI) (L : zL) (x2 : Int32) (xs0 : Int32) : zrun zZ kX4_readWording (44, [some (.ref 5), none, some (.int x2)], [.int xs0], (hp I L), 0, 0) = (cond (!decide (xs0 = (0 : Int32))) (cond (!decide ((I 5 9) = x2)) (zrun zZ kX4_readWording (63, [some (.ref 5), none, some (.int x2)], [], (hp I L), 0, 0)) ((zcall zZ nX4_fail [.ref 5, .int (1 : Int32)] (hp I L)).bind (fun q => zrun zZ kX4_readWording (62, [none, none, none], q.1.toList ++ [], q.2, 0, 0)))) (zrun zZ kX4_readWording (47, [none, none, none], [], (hp I L), 0, 0))) := by
  rcases hd with rfl | rfl
  · exact (zrun_go zZ [0, 28, 36, 44, 47, 62, 63] 400 _ _).trans rfl
  · exact (zrun_go zZ [0, 28, 36, 44, 47, 62, 63] 400 _ _).trans rfl
theorem e_X4_readWording_63 {d : Nat} (hd : d = 11 ∨ d = 18) (I : zI) (L : zL) (x2 : Int32) : zrun zZ kX4_readWording (63, [some (.ref 5), none, some (.int x2)], [], (hp I L), 0, 0) = (some (some (.int (1 : Int32)), (hp (zup I 5 3 ((I 5 9) - x2)) L), 0, 0)) := by
  rcases hd with rfl | rfl
  · exact (zrun_go zZ [0, 28, 36, 44, 47, 62, 63] 400 _ _).trans rfl
  · exact (zrun_go zZ [0, 28, 36, 44, 47, 62, 63] 400 _ _).trans rfl
theorem e_X4_readWording_62 {d : Nat} (hd : d = 11 ∨ d = 18) (I : zI) (L : zL) (xs0 : Int32) : zrun zZ kX4_readWording (62, [none, none, none], [.int xs0], (hp I L), 0, 0) = (cond (znar .boolean xs0 && true && true) (some (some (.int xs0), (hp I L), 0, 0)) none) := by
  rcases hd with rfl | rfl
  · exact (zrun_go zZ [0, 28, 36, 44, 47, 62, 63] 400 _ _).trans rfl
  · exact (zrun_go zZ [0, 28, 36, 44, 47, 62, 63] 400 _ _).trans rfl
theorem c_X4_readSpans {d : Nat} (hd : d = 11 ∨ d = 18) (I : zI) (L : zL) : zcall zZ nX4_readSpans [.ref 5, .ref d] (hp I L) = (zrun zZ kX4_readSpans (0, [some (.ref 5), some (.ref d), none, none], [], (hp I L), 0, 0)).map (fun r => (r.1, r.2.1)) := by
  rcases hd with rfl | rfl
  · exact (zcall_ent (M := kX4_readSpans) (S := (0, [some (.ref 5), some (.ref 11), none, none], [], (hp I L), 0, 0)) rfl rfl).trans rfl
  · exact (zcall_ent (M := kX4_readSpans) (S := (0, [some (.ref 5), some (.ref 18), none, none], [], (hp I L), 0, 0)) rfl rfl).trans rfl
theorem e_X4_readSpans_0 {d : Nat} (hd : d = 11 ∨ d = 18) (I : zI) (L : zL) : zrun zZ kX4_readSpans (0, [some (.ref 5), some (.ref d), none, none], [], (hp I L), 0, 0) = (zrun zZ kX4_readSpans (12, [some (.ref 5), some (.ref d), some (.int (0 : Int32)), none], [], (hp (zup (zup I 5 12 (-1 : Int32)) 5 13 (1 : Int32)) L), 0, 0)) := by
  rcases hd with rfl | rfl
  · exact (zrun_go zZ [0, 12, 31, 48, 52, 60, 63, 101, 107] 400 _ _).trans rfl
  · exact (zrun_go zZ [0, 12, 31, 48, 52, 60, 63, 101, 107] 400 _ _).trans rfl
theorem e_X4_readSpans_12 {d : Nat} (hd : d = 11 ∨ d = 18) (I : zI) (L : zL) (x2 : Int32) : zrun zZ kX4_readSpans (12, [some (.ref 5), some (.ref d), some (.int x2), none], [], (hp I L), 0, 0) = (cond (decide ((I d 6) < x2)) (zrun zZ kX4_readSpans (107, [none, none, none, none], [], (hp I L), 0, 0)) (cond (decide ((I 5 13) = (0 : Int32))) (zrun zZ kX4_readSpans (107, [none, none, none, none], [], (hp I L), 0, 0)) ((zcall zZ nX4_isWeekday [.ref 5] (hp I L)).bind (fun q => zrun zZ kX4_readSpans (31, [some (.ref 5), some (.ref d), some (.int x2), none], q.1.toList ++ [], q.2, 0, 0))))) := by
  rcases hd with rfl | rfl
  · exact (zrun_go zZ [0, 12, 31, 48, 52, 60, 63, 101, 107] 400 _ _).trans rfl
  · exact (zrun_go zZ [0, 12, 31, 48, 52, 60, 63, 101, 107] 400 _ _).trans rfl
theorem e_X4_readSpans_107 {d : Nat} (hd : d = 11 ∨ d = 18) (I : zI) (L : zL) : zrun zZ kX4_readSpans (107, [none, none, none, none], [], (hp I L), 0, 0) = (some (some (.int (1 : Int32)), (hp I L), 0, 0)) := by
  rcases hd with rfl | rfl
  · exact (zrun_go zZ [0, 12, 31, 48, 52, 60, 63, 101, 107] 400 _ _).trans rfl
  · exact (zrun_go zZ [0, 12, 31, 48, 52, 60, 63, 101, 107] 400 _ _).trans rfl
theorem e_X4_readSpans_31 {d : Nat} (hd : d = 11 ∨ d = 18) (I : zI) (L : zL) (x2 : Int32) (xs0 : Int32) : zrun zZ kX4_readSpans (31, [some (.ref 5), some (.ref d), some (.int x2), none], [.int xs0], (hp I L), 0, 0) = (cond (!decide (xs0 = (0 : Int32))) (zrun zZ kX4_readSpans (48, [some (.ref 5), some (.ref d), some (.int x2), none], [], (hp I L), 0, 0)) (cond (zin (I 5 9) 601) (cond (!decide ((I 6 ((I 5 9)).toNatClampNeg) = (7 : Int32))) (zrun zZ kX4_readSpans (107, [none, none, none, none], [], (hp I L), 0, 0)) (zrun zZ kX4_readSpans (48, [some (.ref 5), some (.ref d), some (.int x2), none], [], (hp I L), 0, 0))) none)) := by
  rcases hd with rfl | rfl
  · exact (zrun_go zZ [0, 12, 31, 48, 52, 60, 63, 101, 107] 400 _ _).trans rfl
  · exact (zrun_go zZ [0, 12, 31, 48, 52, 60, 63, 101, 107] 400 _ _).trans rfl
theorem e_X4_readSpans_48 {d : Nat} (hd : d = 11 ∨ d = 18) (I : zI) (L : zL) (x2 : Int32) : zrun zZ kX4_readSpans (48, [some (.ref 5), some (.ref d), some (.int x2), none], [], (hp I L), 0, 0) = ((zcall zZ nX4_readPattern [.ref 5] (hp I L)).bind (fun q => zrun zZ kX4_readSpans (52, [some (.ref 5), some (.ref d), some (.int x2), none], q.1.toList ++ [], q.2, 0, 0))) := by
  rcases hd with rfl | rfl
  · exact (zrun_go zZ [0, 12, 31, 48, 52, 60, 63, 101, 107] 400 _ _).trans rfl
  · exact (zrun_go zZ [0, 12, 31, 48, 52, 60, 63, 101, 107] 400 _ _).trans rfl
theorem e_X4_readSpans_52 {d : Nat} (hd : d = 11 ∨ d = 18) (I : zI) (L : zL) (x2 : Int32) (xs0 : Int32) : zrun zZ kX4_readSpans (52, [some (.ref 5), some (.ref d), some (.int x2), none], [.int xs0], (hp I L), 0, 0) = (cond (decide (xs0 = (0 : Int32))) (zrun zZ kX4_readSpans (63, [none, none, none, none], [], (hp I L), 0, 0)) ((zcall zZ nX4_readBounds [.ref 5, .ref d] (hp I L)).bind (fun q => zrun zZ kX4_readSpans (60, [some (.ref 5), some (.ref d), some (.int x2), none], q.1.toList ++ [], q.2, 0, 0)))) := by
  rcases hd with rfl | rfl
  · exact (zrun_go zZ [0, 12, 31, 48, 52, 60, 63, 101, 107] 400 _ _).trans rfl
  · exact (zrun_go zZ [0, 12, 31, 48, 52, 60, 63, 101, 107] 400 _ _).trans rfl
theorem e_X4_readSpans_63 {d : Nat} (hd : d = 11 ∨ d = 18) (I : zI) (L : zL) : zrun zZ kX4_readSpans (63, [none, none, none, none], [], (hp I L), 0, 0) = (some (some (.int (0 : Int32)), (hp I L), 0, 0)) := by
  rcases hd with rfl | rfl
  · exact (zrun_go zZ [0, 12, 31, 48, 52, 60, 63, 101, 107] 400 _ _).trans rfl
  · exact (zrun_go zZ [0, 12, 31, 48, 52, 60, 63, 101, 107] 400 _ _).trans rfl
theorem e_X4_readSpans_60 {d : Nat} (hd : d = 11 ∨ d = 18) (I : zI) (L : zL) (x2 : Int32) (xs0 : Int32) : zrun zZ kX4_readSpans (60, [some (.ref 5), some (.ref d), some (.int x2), none], [.int xs0], (hp I L), 0, 0) = (cond (!decide (xs0 = (0 : Int32))) (cond (zin (I 5 10) 128) (zrun zZ kX4_readSpans (101, [some (.ref 5), some (.ref d), some (.int x2), none], [], (hp (zup I 5 2 ((I 5 2) ||| ((((1 : Int32) <<< (((I 5 12) + (1 : Int32)) &&& 31)) - ((1 : Int32) <<< ((I 5 11) &&& 31))) &&& (I (d + 1) ((I 5 10)).toNatClampNeg)))) L), 0, 0)) none) (zrun zZ kX4_readSpans (63, [none, none, none, none], [], (hp I L), 0, 0))) := by
  rcases hd with rfl | rfl
  · exact (zrun_go zZ [0, 12, 31, 48, 52, 60, 63, 101, 107] 400 _ _).trans rfl
  · exact (zrun_go zZ [0, 12, 31, 48, 52, 60, 63, 101, 107] 400 _ _).trans rfl
theorem e_X4_readSpans_101 {d : Nat} (hd : d = 11 ∨ d = 18) (I : zI) (L : zL) (x2 : Int32) : zrun zZ kX4_readSpans (101, [some (.ref 5), some (.ref d), some (.int x2), none], [], (hp I L), 0, 0) = (zrun zZ kX4_readSpans (12, [some (.ref 5), some (.ref d), some (.int (x2 + (1 : Int32))), none], [], (hp I L), 0, 0)) := by
  rcases hd with rfl | rfl
  · exact (zrun_go zZ [0, 12, 31, 48, 52, 60, 63, 101, 107] 400 _ _).trans rfl
  · exact (zrun_go zZ [0, 12, 31, 48, 52, 60, 63, 101, 107] 400 _ _).trans rfl
theorem c_X4_readPattern (I : zI) (L : zL) : zcall zZ nX4_readPattern [.ref 5] (hp I L) = (zrun zZ kX4_readPattern (0, [some (.ref 5), none, none, none, none], [], (hp I L), 0, 0)).map (fun r => (r.1, r.2.1)) := (zcall_ent (M := kX4_readPattern) (S := (0, [some (.ref 5), none, none, none, none], [], (hp I L), 0, 0)) rfl rfl).trans rfl
theorem e_X4_readPattern_0 (I : zI) (L : zL) : zrun zZ kX4_readPattern (0, [some (.ref 5), none, none, none, none], [], (hp I L), 0, 0) = (cond (zin (I 5 9) 601) (cond (!decide ((I 6 ((I 5 9)).toNatClampNeg) = (7 : Int32))) (zrun zZ kX4_readPattern (35, [some (.ref 5), some (.int (0 : Int32)), some (.int (0 : Int32)), none, none], [], (hp (zup I 5 10 (0 : Int32)) L), 0, 0)) ((zcall zZ nX4_step [.ref 5] (hp (zup I 5 10 (127 : Int32)) L)).bind (fun q => zrun zZ kX4_readPattern (24, [none, none, none, none, none], q.1.toList ++ [], q.2, 0, 0)))) none) := (zrun_go zZ [0, 24, 35, 45, 71, 76, 97, 101, 109, 135, 140, 167] 400 _ _).trans rfl
theorem e_X4_readPattern_35 (I : zI) (L : zL) (x1 : Int32) (x2 : Int32) : zrun zZ kX4_readPattern (35, [some (.ref 5), some (.int x1), some (.int x2), none, none], [], (hp I L), 0, 0) = (cond (decide ((7 : Int32) < x2)) (zrun zZ kX4_readPattern (167, [none, none, none, none, none], [], (hp I L), 0, 0)) ((zcall zZ nX4_isWeekday [.ref 5] (hp I L)).bind (fun q => zrun zZ kX4_readPattern (45, [some (.ref 5), some (.int x1), some (.int x2), none, none], q.1.toList ++ [], q.2, 0, 0)))) := (zrun_go zZ [0, 24, 35, 45, 71, 76, 97, 101, 109, 135, 140, 167] 400 _ _).trans rfl
theorem e_X4_readPattern_24 (I : zI) (L : zL) : zrun zZ kX4_readPattern (24, [none, none, none, none, none], [], (hp I L), 0, 0) = (some (some (.int (1 : Int32)), (hp I L), 0, 0)) := (zrun_go zZ [0, 24, 35, 45, 71, 76, 97, 101, 109, 135, 140, 167] 400 _ _).trans rfl
theorem e_X4_readPattern_167 (I : zI) (L : zL) : zrun zZ kX4_readPattern (167, [none, none, none, none, none], [], (hp I L), 0, 0) = (some (some (.int (1 : Int32)), (hp I L), 0, 0)) := (zrun_go zZ [0, 24, 35, 45, 71, 76, 97, 101, 109, 135, 140, 167] 400 _ _).trans rfl
theorem e_X4_readPattern_45 (I : zI) (L : zL) (x1 : Int32) (x2 : Int32) (xs0 : Int32) : zrun zZ kX4_readPattern (45, [some (.ref 5), some (.int x1), some (.int x2), none, none], [.int xs0], (hp I L), 0, 0) = (cond (decide (xs0 = (0 : Int32))) (zrun zZ kX4_readPattern (167, [none, none, none, none, none], [], (hp I L), 0, 0)) (cond (zin (I 5 9) 601) (cond (!decide (((I 6 ((I 5 9)).toNatClampNeg) - (12 : Int32)) < x1)) ((zcall zZ nX4_step [.ref 5] (hp I L)).bind (fun q => zrun zZ kX4_readPattern (76, [some (.ref 5), none, some (.int x2), some (.int ((I 6 ((I 5 9)).toNatClampNeg) - (12 : Int32))), none], q.1.toList ++ [], q.2, 0, 0))) ((zcall zZ nX4_fail [.ref 5, .int (2 : Int32)] (hp I L)).bind (fun q => zrun zZ kX4_readPattern (71, [none, none, none, none, none], q.1.toList ++ [], q.2, 0, 0)))) none)) := (zrun_go zZ [0, 24, 35, 45, 71, 76, 97, 101, 109, 135, 140, 167] 400 _ _).trans rfl
theorem e_X4_readPattern_76 (I : zI) (L : zL) (x2 : Int32) (x3 : Int32) : zrun zZ kX4_readPattern (76, [some (.ref 5), none, some (.int x2), some (.int x3), none], [], (hp I L), 0, 0) = (cond (zin (I 5 9) 601) (cond (!decide ((I 6 ((I 5 9)).toNatClampNeg) = (23 : Int32))) (zrun zZ kX4_readPattern (140, [some (.ref 5), none, some (.int x2), some (.int x3), some (.int x3)], [], (hp I L), 0, 0)) ((zcall zZ nX4_step [.ref 5] (hp I L)).bind (fun q => zrun zZ kX4_readPattern (97, [some (.ref 5), none, some (.int x2), some (.int x3), none], q.1.toList ++ [], q.2, 0, 0)))) none) := (zrun_go zZ [0, 24, 35, 45, 71, 76, 97, 101, 109, 135, 140, 167] 400 _ _).trans rfl
theorem e_X4_readPattern_71 (I : zI) (L : zL) (xs0 : Int32) : zrun zZ kX4_readPattern (71, [none, none, none, none, none], [.int xs0], (hp I L), 0, 0) = (cond (znar .boolean xs0 && true && true) (some (some (.int xs0), (hp I L), 0, 0)) none) := (zrun_go zZ [0, 24, 35, 45, 71, 76, 97, 101, 109, 135, 140, 167] 400 _ _).trans rfl
theorem e_X4_readPattern_140 (I : zI) (L : zL) (x2 : Int32) (x3 : Int32) (x4 : Int32) : zrun zZ kX4_readPattern (140, [some (.ref 5), none, some (.int x2), some (.int x3), some (.int x4)], [], (hp I L), 0, 0) = (zrun zZ kX4_readPattern (35, [some (.ref 5), some (.int (x4 + (1 : Int32))), some (.int (x2 + (1 : Int32))), none, none], [], (hp (zup I 5 10 ((I 5 10) ||| (((1 : Int32) <<< ((x4 + (1 : Int32)) &&& 31)) - ((1 : Int32) <<< (x3 &&& 31))))) L), 0, 0)) := (zrun_go zZ [0, 24, 35, 45, 71, 76, 97, 101, 109, 135, 140, 167] 400 _ _).trans rfl
theorem e_X4_readPattern_97 (I : zI) (L : zL) (x2 : Int32) (x3 : Int32) : zrun zZ kX4_readPattern (97, [some (.ref 5), none, some (.int x2), some (.int x3), none], [], (hp I L), 0, 0) = ((zcall zZ nX4_isWeekday [.ref 5] (hp I L)).bind (fun q => zrun zZ kX4_readPattern (101, [some (.ref 5), none, some (.int x2), some (.int x3), none], q.1.toList ++ [], q.2, 0, 0))) := (zrun_go zZ [0, 24, 35, 45, 71, 76, 97, 101, 109, 135, 140, 167] 400 _ _).trans rfl
theorem e_X4_readPattern_101 (I : zI) (L : zL) (x2 : Int32) (x3 : Int32) (xs0 : Int32) : zrun zZ kX4_readPattern (101, [some (.ref 5), none, some (.int x2), some (.int x3), none], [.int xs0], (hp I L), 0, 0) = (cond (!decide (xs0 = (0 : Int32))) (cond (zin (I 5 9) 601) (cond (decide (x3 < ((I 6 ((I 5 9)).toNatClampNeg) - (12 : Int32)))) ((zcall zZ nX4_step [.ref 5] (hp I L)).bind (fun q => zrun zZ kX4_readPattern (140, [some (.ref 5), none, some (.int x2), some (.int x3), some (.int ((I 6 ((I 5 9)).toNatClampNeg) - (12 : Int32)))], q.1.toList ++ [], q.2, 0, 0))) ((zcall zZ nX4_fail [.ref 5, .int (2 : Int32)] (hp I L)).bind (fun q => zrun zZ kX4_readPattern (135, [none, none, none, none, none], q.1.toList ++ [], q.2, 0, 0)))) none) ((zcall zZ nX4_fail [.ref 5, .int (1 : Int32)] (hp I L)).bind (fun q => zrun zZ kX4_readPattern (109, [none, none, none, none, none], q.1.toList ++ [], q.2, 0, 0)))) := (zrun_go zZ [0, 24, 35, 45, 71, 76, 97, 101, 109, 135, 140, 167] 400 _ _).trans rfl
theorem e_X4_readPattern_135 (I : zI) (L : zL) (xs0 : Int32) : zrun zZ kX4_readPattern (135, [none, none, none, none, none], [.int xs0], (hp I L), 0, 0) = (cond (znar .boolean xs0 && true && true) (some (some (.int xs0), (hp I L), 0, 0)) none) := (zrun_go zZ [0, 24, 35, 45, 71, 76, 97, 101, 109, 135, 140, 167] 400 _ _).trans rfl
theorem e_X4_readPattern_109 (I : zI) (L : zL) (xs0 : Int32) : zrun zZ kX4_readPattern (109, [none, none, none, none, none], [.int xs0], (hp I L), 0, 0) = (cond (znar .boolean xs0 && true && true) (some (some (.int xs0), (hp I L), 0, 0)) none) := (zrun_go zZ [0, 24, 35, 45, 71, 76, 97, 101, 109, 135, 140, 167] 400 _ _).trans rfl
theorem c_X4_readBounds {d : Nat} (hd : d = 11 ∨ d = 18) (I : zI) (L : zL) : zcall zZ nX4_readBounds [.ref 5, .ref d] (hp I L) = (zrun zZ kX4_readBounds (0, [some (.ref 5), some (.ref d), none], [], (hp I L), 0, 0)).map (fun r => (r.1, r.2.1)) := by
  rcases hd with rfl | rfl
  · exact (zcall_ent (M := kX4_readBounds) (S := (0, [some (.ref 5), some (.ref 11), none], [], (hp I L), 0, 0)) rfl rfl).trans rfl
  · exact (zcall_ent (M := kX4_readBounds) (S := (0, [some (.ref 5), some (.ref 18), none], [], (hp I L), 0, 0)) rfl rfl).trans rfl
theorem e_X4_readBounds_0 {d : Nat} (hd : d = 11 ∨ d = 18) (I : zI) (L : zL) : zrun zZ kX4_readBounds (0, [some (.ref 5), some (.ref d), none], [], (hp I L), 0, 0) = (cond (zin (I 5 9) 601) (cond (!decide ((I 6 ((I 5 9)).toNatClampNeg) = (8 : Int32))) (cond (!decide ((0 : Int32) < ((I 5 12) + (1 : Int32)))) (zrun zZ kX4_readBounds (77, [some (.ref 5), some (.ref d), none], [], (hp (zup I 5 11 (0 : Int32)) L), 0, 0)) ((zcall zZ nX4_fail [.ref 5, .int (1 : Int32)] (hp (zup I 5 11 (0 : Int32)) L)).bind (fun q => zrun zZ kX4_readBounds (76, [none, none, none], q.1.toList ++ [], q.2, 0, 0)))) ((zcall zZ nX4_step [.ref 5] (hp (zup I 5 11 (0 : Int32)) L)).bind (fun q => zrun zZ kX4_readBounds (30, [some (.ref 5), some (.ref d), some (.int ((I 5 12) + (1 : Int32)))], q.1.toList ++ [], q.2, 0, 0)))) none) := by
  rcases hd with rfl | rfl
  · exact (zrun_go zZ [0, 30, 41, 64, 76, 77, 107, 121, 135, 158] 400 _ _).trans rfl
  · exact (zrun_go zZ [0, 30, 41, 64, 76, 77, 107, 121, 135, 158] 400 _ _).trans rfl
theorem e_X4_readBounds_77 {d : Nat} (hd : d = 11 ∨ d = 18) (I : zI) (L : zL) : zrun zZ kX4_readBounds (77, [some (.ref 5), some (.ref d), none], [], (hp I L), 0, 0) = (cond (zin (I 5 9) 601) (cond (!decide ((I 6 ((I 5 9)).toNatClampNeg) = (9 : Int32))) (zrun zZ kX4_readBounds (107, [some (.ref 5), some (.ref d), none], [.int (0 : Int32), .ref 5], (hp (zup I 5 12 ((I d 6) - (1 : Int32))) L), 0, 0)) (zrun zZ kX4_readBounds (107, [some (.ref 5), some (.ref d), none], [.int (1 : Int32), .ref 5], (hp (zup I 5 12 ((I d 6) - (1 : Int32))) L), 0, 0))) none) := by
  rcases hd with rfl | rfl
  · exact (zrun_go zZ [0, 30, 41, 64, 76, 77, 107, 121, 135, 158] 400 _ _).trans rfl
  · exact (zrun_go zZ [0, 30, 41, 64, 76, 77, 107, 121, 135, 158] 400 _ _).trans rfl
theorem e_X4_readBounds_76 {d : Nat} (hd : d = 11 ∨ d = 18) (I : zI) (L : zL) (xs0 : Int32) : zrun zZ kX4_readBounds (76, [none, none, none], [.int xs0], (hp I L), 0, 0) = (cond (znar .boolean xs0 && true && true) (some (some (.int xs0), (hp I L), 0, 0)) none) := by
  rcases hd with rfl | rfl
  · exact (zrun_go zZ [0, 30, 41, 64, 76, 77, 107, 121, 135, 158] 400 _ _).trans rfl
  · exact (zrun_go zZ [0, 30, 41, 64, 76, 77, 107, 121, 135, 158] 400 _ _).trans rfl
theorem e_X4_readBounds_30 {d : Nat} (hd : d = 11 ∨ d = 18) (I : zI) (L : zL) (x2 : Int32) : zrun zZ kX4_readBounds (30, [some (.ref 5), some (.ref d), some (.int x2)], [], (hp I L), 0, 0) = ((zcall zZ nX4_seeNumber [.ref 5, .int x2, .int ((I d 6) - (1 : Int32))] (hp I L)).bind (fun q => zrun zZ kX4_readBounds (41, [some (.ref 5), some (.ref d), none], q.1.toList ++ [], q.2, 0, 0))) := by
  rcases hd with rfl | rfl
  · exact (zrun_go zZ [0, 30, 41, 64, 76, 77, 107, 121, 135, 158] 400 _ _).trans rfl
  · exact (zrun_go zZ [0, 30, 41, 64, 76, 77, 107, 121, 135, 158] 400 _ _).trans rfl
theorem e_X4_readBounds_107 {d : Nat} (hd : d = 11 ∨ d = 18) (I : zI) (L : zL) (xs0 : Int32) : zrun zZ kX4_readBounds (107, [some (.ref 5), some (.ref d), none], [.int xs0, .ref 5], (hp I L), 0, 0) = (cond (znar .boolean xs0) (cond (decide (xs0 = (0 : Int32))) (zrun zZ kX4_readBounds (158, [none, none, none], [], (hp (zup I 5 13 xs0) L), 0, 0)) ((zcall zZ nX4_step [.ref 5] (hp (zup I 5 13 xs0) L)).bind (fun q => zrun zZ kX4_readBounds (121, [some (.ref 5), some (.ref d), none], q.1.toList ++ [], q.2, 0, 0)))) none) := by
  rcases hd with rfl | rfl
  · exact (zrun_go zZ [0, 30, 41, 64, 76, 77, 107, 121, 135, 158] 400 _ _).trans rfl
  · exact (zrun_go zZ [0, 30, 41, 64, 76, 77, 107, 121, 135, 158] 400 _ _).trans rfl
theorem e_X4_readBounds_41 {d : Nat} (hd : d = 11 ∨ d = 18) (I : zI) (L : zL) (xs0 : Int32) : zrun zZ kX4_readBounds (41, [some (.ref 5), some (.ref d), none], [.int xs0], (hp I L), 0, 0) = (cond (!decide (xs0 = (0 : Int32))) (cond (zin (I 5 9) 601) ((zcall zZ nX4_step [.ref 5] (hp (zup I 5 11 ((L 8 ((I 5 9)).toNatClampNeg)).toInt32) L)).bind (fun q => zrun zZ kX4_readBounds (64, [some (.ref 5), some (.ref d), none], q.1.toList ++ [], q.2, 0, 0))) none) (some (some (.int (0 : Int32)), (hp I L), 0, 0))) := by
  rcases hd with rfl | rfl
  · exact (zrun_go zZ [0, 30, 41, 64, 76, 77, 107, 121, 135, 158] 400 _ _).trans rfl
  · exact (zrun_go zZ [0, 30, 41, 64, 76, 77, 107, 121, 135, 158] 400 _ _).trans rfl
theorem e_X4_readBounds_158 {d : Nat} (hd : d = 11 ∨ d = 18) (I : zI) (L : zL) : zrun zZ kX4_readBounds (158, [none, none, none], [], (hp I L), 0, 0) = (some (some (.int (1 : Int32)), (hp I L), 0, 0)) := by
  rcases hd with rfl | rfl
  · exact (zrun_go zZ [0, 30, 41, 64, 76, 77, 107, 121, 135, 158] 400 _ _).trans rfl
  · exact (zrun_go zZ [0, 30, 41, 64, 76, 77, 107, 121, 135, 158] 400 _ _).trans rfl
theorem e_X4_readBounds_121 {d : Nat} (hd : d = 11 ∨ d = 18) (I : zI) (L : zL) : zrun zZ kX4_readBounds (121, [some (.ref 5), some (.ref d), none], [], (hp I L), 0, 0) = ((zcall zZ nX4_seeNumber [.ref 5, .int (I 5 11), .int ((I d 6) - (1 : Int32))] (hp I L)).bind (fun q => zrun zZ kX4_readBounds (135, [some (.ref 5), none, none], q.1.toList ++ [], q.2, 0, 0))) := by
  rcases hd with rfl | rfl
  · exact (zrun_go zZ [0, 30, 41, 64, 76, 77, 107, 121, 135, 158] 400 _ _).trans rfl
  · exact (zrun_go zZ [0, 30, 41, 64, 76, 77, 107, 121, 135, 158] 400 _ _).trans rfl
theorem e_X4_readBounds_64 {d : Nat} (hd : d = 11 ∨ d = 18) (I : zI) (L : zL) : zrun zZ kX4_readBounds (64, [some (.ref 5), some (.ref d), none], [], (hp I L), 0, 0) = (zrun zZ kX4_readBounds (77, [some (.ref 5), some (.ref d), none], [], (hp I L), 0, 0)) := by
  rcases hd with rfl | rfl
  · exact (zrun_go zZ [0, 30, 41, 64, 76, 77, 107, 121, 135, 158] 400 _ _).trans rfl
  · exact (zrun_go zZ [0, 30, 41, 64, 76, 77, 107, 121, 135, 158] 400 _ _).trans rfl
theorem e_X4_readBounds_135 {d : Nat} (hd : d = 11 ∨ d = 18) (I : zI) (L : zL) (xs0 : Int32) : zrun zZ kX4_readBounds (135, [some (.ref 5), none, none], [.int xs0], (hp I L), 0, 0) = (cond (!decide (xs0 = (0 : Int32))) (cond (zin (I 5 9) 601) ((zcall zZ nX4_step [.ref 5] (hp (zup I 5 12 ((L 8 ((I 5 9)).toNatClampNeg)).toInt32) L)).bind (fun q => zrun zZ kX4_readBounds (158, [none, none, none], q.1.toList ++ [], q.2, 0, 0))) none) (some (some (.int (0 : Int32)), (hp I L), 0, 0))) := by
  rcases hd with rfl | rfl
  · exact (zrun_go zZ [0, 30, 41, 64, 76, 77, 107, 121, 135, 158] 400 _ _).trans rfl
  · exact (zrun_go zZ [0, 30, 41, 64, 76, 77, 107, 121, 135, 158] 400 _ _).trans rfl
theorem c_X4_readExceptions {d : Nat} (hd : d = 11 ∨ d = 18) (I : zI) (L : zL) : zcall zZ nX4_readExceptions [.ref 5, .ref d] (hp I L) = (zrun zZ kX4_readExceptions (0, [some (.ref 5), some (.ref d)], [], (hp I L), 0, 0)).map (fun r => (r.1, r.2.1)) := by
  rcases hd with rfl | rfl
  · exact (zcall_ent (M := kX4_readExceptions) (S := (0, [some (.ref 5), some (.ref 11)], [], (hp I L), 0, 0)) rfl rfl).trans rfl
  · exact (zcall_ent (M := kX4_readExceptions) (S := (0, [some (.ref 5), some (.ref 18)], [], (hp I L), 0, 0)) rfl rfl).trans rfl
theorem e_X4_readExceptions_0 {d : Nat} (hd : d = 11 ∨ d = 18) (I : zI) (L : zL) : zrun zZ kX4_readExceptions (0, [some (.ref 5), some (.ref d)], [], (hp I L), 0, 0) = (cond (zin (I 5 9) 601) (cond (!decide ((I 6 ((I 5 9)).toNatClampNeg) = (10 : Int32))) (zrun zZ kX4_readExceptions (43, [some (.ref 5), some (.ref d)], [], (hp I L), 0, 0)) ((zcall zZ nX4_step [.ref 5] (hp I L)).bind (fun q => zrun zZ kX4_readExceptions (18, [some (.ref 5), some (.ref d)], q.1.toList ++ [], q.2, 0, 0)))) none) := by
  rcases hd with rfl | rfl
  · exact (zrun_go zZ [0, 18, 23, 43, 61, 66, 84] 400 _ _).trans rfl
  · exact (zrun_go zZ [0, 18, 23, 43, 61, 66, 84] 400 _ _).trans rfl
theorem e_X4_readExceptions_43 {d : Nat} (hd : d = 11 ∨ d = 18) (I : zI) (L : zL) : zrun zZ kX4_readExceptions (43, [some (.ref 5), some (.ref d)], [], (hp I L), 0, 0) = (cond (zin (I 5 9) 601) (cond (!decide ((I 6 ((I 5 9)).toNatClampNeg) = (11 : Int32))) (zrun zZ kX4_readExceptions (84, [none, none], [], (hp I L), 0, 0)) ((zcall zZ nX4_step [.ref 5] (hp I L)).bind (fun q => zrun zZ kX4_readExceptions (61, [some (.ref 5), some (.ref d)], q.1.toList ++ [], q.2, 0, 0)))) none) := by
  rcases hd with rfl | rfl
  · exact (zrun_go zZ [0, 18, 23, 43, 61, 66, 84] 400 _ _).trans rfl
  · exact (zrun_go zZ [0, 18, 23, 43, 61, 66, 84] 400 _ _).trans rfl
theorem e_X4_readExceptions_18 {d : Nat} (hd : d = 11 ∨ d = 18) (I : zI) (L : zL) : zrun zZ kX4_readExceptions (18, [some (.ref 5), some (.ref d)], [], (hp I L), 0, 0) = ((zcall zZ nX4_readEntries [.ref 5, .ref d] (hp I L)).bind (fun q => zrun zZ kX4_readExceptions (23, [some (.ref 5), some (.ref d)], q.1.toList ++ [], q.2, 0, 0))) := by
  rcases hd with rfl | rfl
  · exact (zrun_go zZ [0, 18, 23, 43, 61, 66, 84] 400 _ _).trans rfl
  · exact (zrun_go zZ [0, 18, 23, 43, 61, 66, 84] 400 _ _).trans rfl
theorem e_X4_readExceptions_84 {d : Nat} (hd : d = 11 ∨ d = 18) (I : zI) (L : zL) : zrun zZ kX4_readExceptions (84, [none, none], [], (hp I L), 0, 0) = (some (some (.int (1 : Int32)), (hp I L), 0, 0)) := by
  rcases hd with rfl | rfl
  · exact (zrun_go zZ [0, 18, 23, 43, 61, 66, 84] 400 _ _).trans rfl
  · exact (zrun_go zZ [0, 18, 23, 43, 61, 66, 84] 400 _ _).trans rfl
theorem e_X4_readExceptions_61 {d : Nat} (hd : d = 11 ∨ d = 18) (I : zI) (L : zL) : zrun zZ kX4_readExceptions (61, [some (.ref 5), some (.ref d)], [], (hp I L), 0, 0) = ((zcall zZ nX4_readEntries [.ref 5, .ref d] (hp I L)).bind (fun q => zrun zZ kX4_readExceptions (66, [some (.ref 5), none], q.1.toList ++ [], q.2, 0, 0))) := by
  rcases hd with rfl | rfl
  · exact (zrun_go zZ [0, 18, 23, 43, 61, 66, 84] 400 _ _).trans rfl
  · exact (zrun_go zZ [0, 18, 23, 43, 61, 66, 84] 400 _ _).trans rfl
theorem e_X4_readExceptions_23 {d : Nat} (hd : d = 11 ∨ d = 18) (I : zI) (L : zL) (xs0 : Int32) : zrun zZ kX4_readExceptions (23, [some (.ref 5), some (.ref d)], [.int xs0], (hp I L), 0, 0) = (cond (!decide (xs0 = (0 : Int32))) (zrun zZ kX4_readExceptions (43, [some (.ref 5), some (.ref d)], [], (hp (zup I 5 2 ((I 5 2) &&& ((I 5 14) ^^^ (-1 : Int32)))) L), 0, 0)) (some (some (.int (0 : Int32)), (hp I L), 0, 0))) := by
  rcases hd with rfl | rfl
  · exact (zrun_go zZ [0, 18, 23, 43, 61, 66, 84] 400 _ _).trans rfl
  · exact (zrun_go zZ [0, 18, 23, 43, 61, 66, 84] 400 _ _).trans rfl
theorem e_X4_readExceptions_66 {d : Nat} (hd : d = 11 ∨ d = 18) (I : zI) (L : zL) (xs0 : Int32) : zrun zZ kX4_readExceptions (66, [some (.ref 5), none], [.int xs0], (hp I L), 0, 0) = (cond (!decide (xs0 = (0 : Int32))) (zrun zZ kX4_readExceptions (84, [none, none], [], (hp (zup I 5 2 ((I 5 2) ||| (I 5 14))) L), 0, 0)) (some (some (.int (0 : Int32)), (hp I L), 0, 0))) := by
  rcases hd with rfl | rfl
  · exact (zrun_go zZ [0, 18, 23, 43, 61, 66, 84] 400 _ _).trans rfl
  · exact (zrun_go zZ [0, 18, 23, 43, 61, 66, 84] 400 _ _).trans rfl
theorem c_X4_readEntries {d : Nat} (hd : d = 11 ∨ d = 18) (I : zI) (L : zL) : zcall zZ nX4_readEntries [.ref 5, .ref d] (hp I L) = (zrun zZ kX4_readEntries (0, [some (.ref 5), some (.ref d), none, none, none, none, none, none], [], (hp I L), 0, 0)).map (fun r => (r.1, r.2.1)) := by
  rcases hd with rfl | rfl
  · exact (zcall_ent (M := kX4_readEntries) (S := (0, [some (.ref 5), some (.ref 11), none, none, none, none, none, none], [], (hp I L), 0, 0)) rfl rfl).trans rfl
  · exact (zcall_ent (M := kX4_readEntries) (S := (0, [some (.ref 5), some (.ref 18), none, none, none, none, none, none], [], (hp I L), 0, 0)) rfl rfl).trans rfl
theorem e_X4_readEntries_0 {d : Nat} (hd : d = 11 ∨ d = 18) (I : zI) (L : zL) : zrun zZ kX4_readEntries (0, [some (.ref 5), some (.ref d), none, none, none, none, none, none], [], (hp I L), 0, 0) = (zrun zZ kX4_readEntries (16, [some (.ref 5), some (.ref d), some (.int (0 : Int32)), some (.int (0 : Int32)), some (.int (30 : Int32)), some (.int (0 : Int32)), none, none], [], (hp (zup I 5 14 (0 : Int32)) L), 0, 0)) := by
  rcases hd with rfl | rfl
  · exact (zrun_go zZ [0, 16, 50, 54, 76, 128, 159, 189, 192, 197, 198, 202] 400 _ _).trans rfl
  · exact (zrun_go zZ [0, 16, 50, 54, 76, 128, 159, 189, 192, 197, 198, 202] 400 _ _).trans rfl
theorem e_X4_readEntries_16 {d : Nat} (hd : d = 11 ∨ d = 18) (I : zI) (L : zL) (x2 : Int32) (x3 : Int32) (x4 : Int32) (x5 : Int32) : zrun zZ kX4_readEntries (16, [some (.ref 5), some (.ref d), some (.int x2), some (.int x3), some (.int x4), some (.int x5), none, none], [], (hp I L), 0, 0) = (cond (decide (x4 < x5)) (some (some (.int (1 : Int32)), (hp I L), 0, 0)) (cond (zin (I 5 9) 601) (cond (!decide ((I 6 ((I 5 9)).toNatClampNeg) = (19 : Int32))) (zrun zZ kX4_readEntries (54, [some (.ref 5), some (.ref d), some (.int x2), some (.int x3), some (.int x4), some (.int x5), none, none], [.int (-1 : Int32)], (hp I L), 0, 0)) (cond (zin (I 5 9) 601) ((zcall zZ nX1_feastNamed [.ref d, .long (L 8 ((I 5 9)).toNatClampNeg)] (hp I L)).bind (fun q => zrun zZ kX4_readEntries (50, [some (.ref 5), some (.ref d), some (.int x2), some (.int x3), some (.int x4), some (.int x5), none, none], q.1.toList ++ [], q.2, 0, 0))) none)) none)) := by
  rcases hd with rfl | rfl
  · exact (zrun_go zZ [0, 16, 50, 54, 76, 128, 159, 189, 192, 197, 198, 202] 400 _ _).trans rfl
  · exact (zrun_go zZ [0, 16, 50, 54, 76, 128, 159, 189, 192, 197, 198, 202] 400 _ _).trans rfl
theorem e_X4_readEntries_54 {d : Nat} (hd : d = 11 ∨ d = 18) (I : zI) (L : zL) (x2 : Int32) (x3 : Int32) (x4 : Int32) (x5 : Int32) (xs0 : Int32) : zrun zZ kX4_readEntries (54, [some (.ref 5), some (.ref d), some (.int x2), some (.int x3), some (.int x4), some (.int x5), none, none], [.int xs0], (hp I L), 0, 0) = (cond (decide (xs0 = (-1 : Int32))) (cond (zin (I 5 9) 601) (cond (!decide ((I 6 ((I 5 9)).toNatClampNeg) = (20 : Int32))) (cond (decide ((0 : Int32) < x5)) (zrun zZ kX4_readEntries (192, [none, none, none, none, none, none, none, none], [], (hp I L), 0, 0)) ((zcall zZ nX4_fail [.ref 5, .int (1 : Int32)] (hp I L)).bind (fun q => zrun zZ kX4_readEntries (189, [none, none, none, none, none, none, none, none], q.1.toList ++ [], q.2, 0, 0)))) ((zcall zZ nX4_seeNumber [.ref 5, .int (0 : Int32), .int ((I d 6) - (1 : Int32))] (hp I L)).bind (fun q => zrun zZ kX4_readEntries (128, [some (.ref 5), some (.ref d), some (.int x2), some (.int x3), some (.int x4), some (.int x5), none, none], q.1.toList ++ [], q.2, 0, 0)))) none) (cond (decide (((x2 >>> (xs0 &&& 31)) &&& (1 : Int32)) = (0 : Int32))) (cond (zin xs0 2) (zrun zZ kX4_readEntries (198, [some (.ref 5), some (.ref d), some (.int (x2 ||| ((1 : Int32) <<< (xs0 &&& 31)))), some (.int x3), some (.int x4), some (.int x5), none, none], [], (hp (zup I 5 14 ((I 5 14) ||| (I (d + 3) (xs0).toNatClampNeg))) L), 0, 0)) none) ((zcall zZ nX4_fail [.ref 5, .int (2 : Int32)] (hp I L)).bind (fun q => zrun zZ kX4_readEntries (76, [none, none, none, none, none, none, none, none], q.1.toList ++ [], q.2, 0, 0))))) := by
  rcases hd with rfl | rfl
  · exact (zrun_go zZ [0, 16, 50, 54, 76, 128, 159, 189, 192, 197, 198, 202] 400 _ _).trans rfl
  · exact (zrun_go zZ [0, 16, 50, 54, 76, 128, 159, 189, 192, 197, 198, 202] 400 _ _).trans rfl
theorem e_X4_readEntries_50 {d : Nat} (hd : d = 11 ∨ d = 18) (I : zI) (L : zL) (x2 : Int32) (x3 : Int32) (x4 : Int32) (x5 : Int32) (xs0 : Int32) : zrun zZ kX4_readEntries (50, [some (.ref 5), some (.ref d), some (.int x2), some (.int x3), some (.int x4), some (.int x5), none, none], [.int xs0], (hp I L), 0, 0) = (zrun zZ kX4_readEntries (54, [some (.ref 5), some (.ref d), some (.int x2), some (.int x3), some (.int x4), some (.int x5), none, none], [.int xs0], (hp I L), 0, 0)) := by
  rcases hd with rfl | rfl
  · exact (zrun_go zZ [0, 16, 50, 54, 76, 128, 159, 189, 192, 197, 198, 202] 400 _ _).trans rfl
  · exact (zrun_go zZ [0, 16, 50, 54, 76, 128, 159, 189, 192, 197, 198, 202] 400 _ _).trans rfl
theorem e_X4_readEntries_192 {d : Nat} (hd : d = 11 ∨ d = 18) (I : zI) (L : zL) : zrun zZ kX4_readEntries (192, [none, none, none, none, none, none, none, none], [], (hp I L), 0, 0) = (zrun zZ kX4_readEntries (197, [none, none, none, none, none, none, none, none], [.int (1 : Int32)], (hp I L), 0, 0)) := by
  rcases hd with rfl | rfl
  · exact (zrun_go zZ [0, 16, 50, 54, 76, 128, 159, 189, 192, 197, 198, 202] 400 _ _).trans rfl
  · exact (zrun_go zZ [0, 16, 50, 54, 76, 128, 159, 189, 192, 197, 198, 202] 400 _ _).trans rfl
theorem e_X4_readEntries_189 {d : Nat} (hd : d = 11 ∨ d = 18) (I : zI) (L : zL) (xs0 : Int32) : zrun zZ kX4_readEntries (189, [none, none, none, none, none, none, none, none], [.int xs0], (hp I L), 0, 0) = (cond (decide (xs0 = (0 : Int32))) (zrun zZ kX4_readEntries (197, [none, none, none, none, none, none, none, none], [.int (0 : Int32)], (hp I L), 0, 0)) (zrun zZ kX4_readEntries (192, [none, none, none, none, none, none, none, none], [], (hp I L), 0, 0))) := by
  rcases hd with rfl | rfl
  · exact (zrun_go zZ [0, 16, 50, 54, 76, 128, 159, 189, 192, 197, 198, 202] 400 _ _).trans rfl
  · exact (zrun_go zZ [0, 16, 50, 54, 76, 128, 159, 189, 192, 197, 198, 202] 400 _ _).trans rfl
theorem e_X4_readEntries_128 {d : Nat} (hd : d = 11 ∨ d = 18) (I : zI) (L : zL) (x2 : Int32) (x3 : Int32) (x4 : Int32) (x5 : Int32) (xs0 : Int32) : zrun zZ kX4_readEntries (128, [some (.ref 5), some (.ref d), some (.int x2), some (.int x3), some (.int x4), some (.int x5), none, none], [.int xs0], (hp I L), 0, 0) = (cond (!decide (xs0 = (0 : Int32))) (cond (zin (I 5 9) 601) (cond (decide ((x3 &&& ((1 : Int32) <<< (((L 8 ((I 5 9)).toNatClampNeg)).toInt32 &&& 31))) = (0 : Int32))) (zrun zZ kX4_readEntries (198, [some (.ref 5), some (.ref d), some (.int x2), some (.int (x3 ||| ((1 : Int32) <<< (((L 8 ((I 5 9)).toNatClampNeg)).toInt32 &&& 31)))), some (.int x4), some (.int x5), none, none], [], (hp (zup I 5 14 ((I 5 14) ||| ((1 : Int32) <<< (((L 8 ((I 5 9)).toNatClampNeg)).toInt32 &&& 31)))) L), 0, 0)) ((zcall zZ nX4_fail [.ref 5, .int (2 : Int32)] (hp I L)).bind (fun q => zrun zZ kX4_readEntries (159, [none, none, none, none, none, none, none, none], q.1.toList ++ [], q.2, 0, 0)))) none) (some (some (.int (0 : Int32)), (hp I L), 0, 0))) := by
  rcases hd with rfl | rfl
  · exact (zrun_go zZ [0, 16, 50, 54, 76, 128, 159, 189, 192, 197, 198, 202] 400 _ _).trans rfl
  · exact (zrun_go zZ [0, 16, 50, 54, 76, 128, 159, 189, 192, 197, 198, 202] 400 _ _).trans rfl
theorem e_X4_readEntries_198 {d : Nat} (hd : d = 11 ∨ d = 18) (I : zI) (L : zL) (x2 : Int32) (x3 : Int32) (x4 : Int32) (x5 : Int32) : zrun zZ kX4_readEntries (198, [some (.ref 5), some (.ref d), some (.int x2), some (.int x3), some (.int x4), some (.int x5), none, none], [], (hp I L), 0, 0) = ((zcall zZ nX4_step [.ref 5] (hp I L)).bind (fun q => zrun zZ kX4_readEntries (202, [some (.ref 5), some (.ref d), some (.int x2), some (.int x3), some (.int x4), some (.int x5), none, none], q.1.toList ++ [], q.2, 0, 0))) := by
  rcases hd with rfl | rfl
  · exact (zrun_go zZ [0, 16, 50, 54, 76, 128, 159, 189, 192, 197, 198, 202] 400 _ _).trans rfl
  · exact (zrun_go zZ [0, 16, 50, 54, 76, 128, 159, 189, 192, 197, 198, 202] 400 _ _).trans rfl
theorem e_X4_readEntries_76 {d : Nat} (hd : d = 11 ∨ d = 18) (I : zI) (L : zL) (xs0 : Int32) : zrun zZ kX4_readEntries (76, [none, none, none, none, none, none, none, none], [.int xs0], (hp I L), 0, 0) = (cond (znar .boolean xs0 && true && true) (some (some (.int xs0), (hp I L), 0, 0)) none) := by
  rcases hd with rfl | rfl
  · exact (zrun_go zZ [0, 16, 50, 54, 76, 128, 159, 189, 192, 197, 198, 202] 400 _ _).trans rfl
  · exact (zrun_go zZ [0, 16, 50, 54, 76, 128, 159, 189, 192, 197, 198, 202] 400 _ _).trans rfl
theorem e_X4_readEntries_197 {d : Nat} (hd : d = 11 ∨ d = 18) (I : zI) (L : zL) (xs0 : Int32) : zrun zZ kX4_readEntries (197, [none, none, none, none, none, none, none, none], [.int xs0], (hp I L), 0, 0) = (cond (znar .boolean xs0 && true && true) (some (some (.int xs0), (hp I L), 0, 0)) none) := by
  rcases hd with rfl | rfl
  · exact (zrun_go zZ [0, 16, 50, 54, 76, 128, 159, 189, 192, 197, 198, 202] 400 _ _).trans rfl
  · exact (zrun_go zZ [0, 16, 50, 54, 76, 128, 159, 189, 192, 197, 198, 202] 400 _ _).trans rfl
theorem e_X4_readEntries_159 {d : Nat} (hd : d = 11 ∨ d = 18) (I : zI) (L : zL) (xs0 : Int32) : zrun zZ kX4_readEntries (159, [none, none, none, none, none, none, none, none], [.int xs0], (hp I L), 0, 0) = (cond (znar .boolean xs0 && true && true) (some (some (.int xs0), (hp I L), 0, 0)) none) := by
  rcases hd with rfl | rfl
  · exact (zrun_go zZ [0, 16, 50, 54, 76, 128, 159, 189, 192, 197, 198, 202] 400 _ _).trans rfl
  · exact (zrun_go zZ [0, 16, 50, 54, 76, 128, 159, 189, 192, 197, 198, 202] 400 _ _).trans rfl
theorem e_X4_readEntries_202 {d : Nat} (hd : d = 11 ∨ d = 18) (I : zI) (L : zL) (x2 : Int32) (x3 : Int32) (x4 : Int32) (x5 : Int32) : zrun zZ kX4_readEntries (202, [some (.ref 5), some (.ref d), some (.int x2), some (.int x3), some (.int x4), some (.int x5), none, none], [], (hp I L), 0, 0) = (zrun zZ kX4_readEntries (16, [some (.ref 5), some (.ref d), some (.int x2), some (.int x3), some (.int x4), some (.int (x5 + (1 : Int32))), none, none], [], (hp I L), 0, 0)) := by
  rcases hd with rfl | rfl
  · exact (zrun_go zZ [0, 16, 50, 54, 76, 128, 159, 189, 192, 197, 198, 202] 400 _ _).trans rfl
  · exact (zrun_go zZ [0, 16, 50, 54, 76, 128, 159, 189, 192, 197, 198, 202] 400 _ _).trans rfl
