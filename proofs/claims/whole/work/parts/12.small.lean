theorem c_X0_note (I : zI) (L : zL) : zcall zZ nX0_note [.ref 9, .ref 11] (hp I L) = (zrun zZ kX0_note (0, [some (.ref 9), some (.ref 11)], [], (hp I L), 0, 0)).map (fun r => (r.1, r.2.1)) := (zcall_ent (M := kX0_note) (S := (0, [some (.ref 9), some (.ref 11)], [], (hp I L), 0, 0)) rfl rfl).trans rfl
theorem e_X0_note_0 (I : zI) (L : zL) : zrun zZ kX0_note (0, [some (.ref 9), some (.ref 11)], [], (hp I L), 0, 0) = (cond (!decide ((I 9 1) < (20 : Int32))) (zrun zZ kX0_note (40, [none, none], [], (hp I L), 0, 0)) (cond (!decide ((0 : Int32) < 0) && !decide (((I 9 1) * (6 : Int32)) < 0) && !decide ((6 : Int32) < 0) && Nat.ble (0 + 6) 6 && Nat.ble ((((I 9 1) * (6 : Int32))).toNatClampNeg + 6) 120 && true) (zrun zZ kX0_note (40, [none, none], [], (hp (zup (zcpy I 17 0 10 (((I 9 1) * (6 : Int32))).toNatClampNeg 6) 9 1 (((zcpy I 17 0 10 (((I 9 1) * (6 : Int32))).toNatClampNeg 6) 9 1) + (1 : Int32))) L), 0, 0)) none)) := (zrun_go zZ [0, 40] 400 _ _).trans rfl
theorem e_X0_note_40 (I : zI) (L : zL) : zrun zZ kX0_note (40, [none, none], [], (hp I L), 0, 0) = (some (none, (hp I L), 0, 0)) := (zrun_go zZ [0, 40] 400 _ _).trans rfl
theorem c_X0_backTo (I : zI) (L : zL) (x1 : Int32) : zcall zZ nX0_backTo [.ref 9, .int x1, .ref 11] (hp I L) = (zrun zZ kX0_backTo (0, [some (.ref 9), some (.int x1), some (.ref 11)], [], (hp I L), 0, 0)).map (fun r => (r.1, r.2.1)) := (zcall_ent (M := kX0_backTo) (S := (0, [some (.ref 9), some (.int x1), some (.ref 11)], [], (hp I L), 0, 0)) rfl rfl).trans rfl
theorem e_X0_backTo_0 (I : zI) (L : zL) (x1 : Int32) : zrun zZ kX0_backTo (0, [some (.ref 9), some (.int x1), some (.ref 11)], [], (hp I L), 0, 0) = (cond (decide (x1 < (0 : Int32))) (zrun zZ kX0_backTo (35, [none, none, none], [], (hp I L), 0, 0)) (cond (!decide (x1 < (I 9 1))) (zrun zZ kX0_backTo (35, [none, none, none], [], (hp I L), 0, 0)) (cond (!decide ((x1 * (6 : Int32)) < 0) && !decide ((0 : Int32) < 0) && !decide ((6 : Int32) < 0) && Nat.ble (((x1 * (6 : Int32))).toNatClampNeg + 6) 120 && Nat.ble (0 + 6) 6 && true) (zrun zZ kX0_backTo (35, [none, none, none], [], (hp (zup (zcpy I 10 ((x1 * (6 : Int32))).toNatClampNeg 17 0 6) 9 1 x1) L), 0, 0)) none))) := (zrun_go zZ [0, 35] 400 _ _).trans rfl
theorem e_X0_backTo_35 (I : zI) (L : zL) : zrun zZ kX0_backTo (35, [none, none, none], [], (hp I L), 0, 0) = (some (none, (hp I L), 0, 0)) := (zrun_go zZ [0, 35] 400 _ _).trans rfl
theorem c_X1_clear {d : Nat} (hd : d = 11 ∨ d = 18) (I : zI) (L : zL) : zcall zZ nX1_clear [.ref d] (hp I L) = (zrun zZ kX1_clear (0, [some (.ref d)], [], (hp I L), 0, 0)).map (fun r => (r.1, r.2.1)) := by
  rcases hd with rfl | rfl
  · exact (zcall_ent (M := kX1_clear) (S := (0, [some (.ref 11)], [], (hp I L), 0, 0)) rfl rfl).trans rfl
  · exact (zcall_ent (M := kX1_clear) (S := (0, [some (.ref 18)], [], (hp I L), 0, 0)) rfl rfl).trans rfl
theorem e_X1_clear_0 {d : Nat} (hd : d = 11 ∨ d = 18) (I : zI) (L : zL) : zrun zZ kX1_clear (0, [some (.ref d)], [], (hp I L), 0, 0) = (some (none, (hp (zup (zup (zup (zup (zup I d 6 (0 : Int32)) d 7 (0 : Int32)) d 8 (0 : Int32)) d 9 (0 : Int32)) d 10 (0 : Int32)) L), 0, 0)) := by
  rcases hd with rfl | rfl
  · exact (zrun_go zZ [0] 400 _ _).trans rfl
  · exact (zrun_go zZ [0] 400 _ _).trans rfl
theorem c_X1_openPeriod {d : Nat} (hd : d = 11 ∨ d = 18) (I : zI) (L : zL) (x1 : Int32) (x2 : Int32) : zcall zZ nX1_openPeriod [.ref d, .int x1, .int x2] (hp I L) = (zrun zZ kX1_openPeriod (0, [some (.ref d), some (.int x1), some (.int x2), none, none, none, none], [], (hp I L), 0, 0)).map (fun r => (r.1, r.2.1)) := by
  rcases hd with rfl | rfl
  · exact (zcall_ent (M := kX1_openPeriod) (S := (0, [some (.ref 11), some (.int x1), some (.int x2), none, none, none, none], [], (hp I L), 0, 0)) rfl rfl).trans rfl
  · exact (zcall_ent (M := kX1_openPeriod) (S := (0, [some (.ref 18), some (.int x1), some (.int x2), none, none, none, none], [], (hp I L), 0, 0)) rfl rfl).trans rfl
theorem e_X1_openPeriod_0 {d : Nat} (hd : d = 11 ∨ d = 18) (I : zI) (L : zL) (x1 : Int32) (x2 : Int32) : zrun zZ kX1_openPeriod (0, [some (.ref d), some (.int x1), some (.int x2), none, none, none, none], [], (hp I L), 0, 0) = (zrun zZ kX1_openPeriod (12, [some (.ref d), none, none, some (.int (1 : Int32)), none, none, none], [], (hp (zup (zup I d 6 x1) d 7 x2) L), 0, 0)) := by
  rcases hd with rfl | rfl
  · exact (zrun_go zZ [0, 12, 23, 52] 400 _ _).trans rfl
  · exact (zrun_go zZ [0, 12, 23, 52] 400 _ _).trans rfl
theorem e_X1_openPeriod_12 {d : Nat} (hd : d = 11 ∨ d = 18) (I : zI) (L : zL) (x3 : Int32) : zrun zZ kX1_openPeriod (12, [some (.ref d), none, none, some (.int x3), none, none, none], [], (hp I L), 0, 0) = (cond (!decide (x3 < (128 : Int32))) (some (none, (hp I L), 0, 0)) ((zcall zZ nJ6_numberOfTrailingZeros_0f7a4 [.int x3] (hp I L)).bind (fun q => zrun zZ kX1_openPeriod (23, [some (.ref d), none, none, some (.int x3), none, none, none], q.1.toList ++ [], q.2, 0, 0)))) := by
  rcases hd with rfl | rfl
  · exact (zrun_go zZ [0, 12, 23, 52] 400 _ _).trans rfl
  · exact (zrun_go zZ [0, 12, 23, 52] 400 _ _).trans rfl
theorem e_X1_openPeriod_23 {d : Nat} (hd : d = 11 ∨ d = 18) (I : zI) (L : zL) (x3 : Int32) (xs0 : Int32) : zrun zZ kX1_openPeriod (23, [some (.ref d), none, none, some (.int x3), none, none, none], [.int xs0], (hp I L), 0, 0) = (cond (zin (x3 &&& (x3 - (1 : Int32))) 128) (zrun zZ kX1_openPeriod (52, [some (.ref d), none, none, some (.int x3), none, some (.int (I (d + 1) ((x3 &&& (x3 - (1 : Int32)))).toNatClampNeg)), some (.int (((xs0 + (7 : Int32)) - (I d 7)) - ((xs0 + (7 : Int32)) - (I d 7)) / (7 : Int32) * (7 : Int32)))], [], (hp I L), 0, 0)) none) := by
  rcases hd with rfl | rfl
  · exact (zrun_go zZ [0, 12, 23, 52] 400 _ _).trans rfl
  · exact (zrun_go zZ [0, 12, 23, 52] 400 _ _).trans rfl
theorem e_X1_openPeriod_52 {d : Nat} (hd : d = 11 ∨ d = 18) (I : zI) (L : zL) (x3 : Int32) (x5 : Int32) (x6 : Int32) : zrun zZ kX1_openPeriod (52, [some (.ref d), none, none, some (.int x3), none, some (.int x5), some (.int x6)], [], (hp I L), 0, 0) = (cond (!decide (x6 < (I d 6))) (cond (zin x3 128) (zrun zZ kX1_openPeriod (12, [some (.ref d), none, none, some (.int (x3 + (1 : Int32))), none, none, none], [], (hp (zup I (d + 1) (x3).toNatClampNeg x5) L), 0, 0)) none) (zrun zZ kX1_openPeriod (52, [some (.ref d), none, none, some (.int x3), none, some (.int (x5 ||| ((1 : Int32) <<< (x6 &&& 31)))), some (.int (x6 + (7 : Int32)))], [], (hp I L), 0, 0))) := by
  rcases hd with rfl | rfl
  · exact (zrun_go zZ [0, 12, 23, 52] 400 _ _).trans rfl
  · exact (zrun_go zZ [0, 12, 23, 52] 400 _ _).trans rfl
theorem c_X1_weekdayOf {d : Nat} (hd : d = 11 ∨ d = 18) (I : zI) (L : zL) (x1 : Int32) : zcall zZ nX1_weekdayOf [.ref d, .int x1] (hp I L) = (zrun zZ kX1_weekdayOf (0, [some (.ref d), some (.int x1)], [], (hp I L), 0, 0)).map (fun r => (r.1, r.2.1)) := by
  rcases hd with rfl | rfl
  · exact (zcall_ent (M := kX1_weekdayOf) (S := (0, [some (.ref 11), some (.int x1)], [], (hp I L), 0, 0)) rfl rfl).trans rfl
  · exact (zcall_ent (M := kX1_weekdayOf) (S := (0, [some (.ref 18), some (.int x1)], [], (hp I L), 0, 0)) rfl rfl).trans rfl
theorem e_X1_weekdayOf_0 {d : Nat} (hd : d = 11 ∨ d = 18) (I : zI) (L : zL) (x1 : Int32) : zrun zZ kX1_weekdayOf (0, [some (.ref d), some (.int x1)], [], (hp I L), 0, 0) = (some (some (.int (((I d 7) + x1) - ((I d 7) + x1) / (7 : Int32) * (7 : Int32))), (hp I L), 0, 0)) := by
  rcases hd with rfl | rfl
  · exact (zrun_go zZ [0] 400 _ _).trans rfl
  · exact (zrun_go zZ [0] 400 _ _).trans rfl
theorem c_X1_allDays {d : Nat} (hd : d = 11 ∨ d = 18) (I : zI) (L : zL) : zcall zZ nX1_allDays [.ref d] (hp I L) = (zrun zZ kX1_allDays (0, [some (.ref d)], [], (hp I L), 0, 0)).map (fun r => (r.1, r.2.1)) := by
  rcases hd with rfl | rfl
  · exact (zcall_ent (M := kX1_allDays) (S := (0, [some (.ref 11)], [], (hp I L), 0, 0)) rfl rfl).trans rfl
  · exact (zcall_ent (M := kX1_allDays) (S := (0, [some (.ref 18)], [], (hp I L), 0, 0)) rfl rfl).trans rfl
theorem e_X1_allDays_0 {d : Nat} (hd : d = 11 ∨ d = 18) (I : zI) (L : zL) : zrun zZ kX1_allDays (0, [some (.ref d)], [], (hp I L), 0, 0) = (some (some (.int (((1 : Int32) <<< ((I d 6) &&& 31)) - (1 : Int32))), (hp I L), 0, 0)) := by
  rcases hd with rfl | rfl
  · exact (zrun_go zZ [0] 400 _ _).trans rfl
  · exact (zrun_go zZ [0] 400 _ _).trans rfl
theorem c_X1_feastNamed {d : Nat} (hd : d = 11 ∨ d = 18) (I : zI) (L : zL) (y1 : Int64) : zcall zZ nX1_feastNamed [.ref d, .long y1] (hp I L) = (zrun zZ kX1_feastNamed (0, [some (.ref d), some (.long y1), none, none], [], (hp I L), 0, 0)).map (fun r => (r.1, r.2.1)) := by
  rcases hd with rfl | rfl
  · exact (zcall_ent (M := kX1_feastNamed) (S := (0, [some (.ref 11), some (.long y1), none, none], [], (hp I L), 0, 0)) rfl rfl).trans rfl
  · exact (zcall_ent (M := kX1_feastNamed) (S := (0, [some (.ref 18), some (.long y1), none, none], [], (hp I L), 0, 0)) rfl rfl).trans rfl
theorem e_X1_feastNamed_0 {d : Nat} (hd : d = 11 ∨ d = 18) (I : zI) (L : zL) (y1 : Int64) : zrun zZ kX1_feastNamed (0, [some (.ref d), some (.long y1), none, none], [], (hp I L), 0, 0) = (zrun zZ kX1_feastNamed (2, [some (.ref d), some (.long y1), none, some (.int (0 : Int32))], [], (hp I L), 0, 0)) := by
  rcases hd with rfl | rfl
  · exact (zrun_go zZ [0, 2] 400 _ _).trans rfl
  · exact (zrun_go zZ [0, 2] 400 _ _).trans rfl
theorem e_X1_feastNamed_2 {d : Nat} (hd : d = 11 ∨ d = 18) (I : zI) (L : zL) (y1 : Int64) (x3 : Int32) : zrun zZ kX1_feastNamed (2, [some (.ref d), some (.long y1), none, some (.int x3)], [], (hp I L), 0, 0) = (cond (!decide (x3 < (I d 8))) (some (some (.int (-1 : Int32)), (hp I L), 0, 0)) (cond (zin x3 2) (cond (!decide ((lg_cmp (L (d + 2) (x3).toNatClampNeg) y1) = (0 : Int32))) (zrun zZ kX1_feastNamed (2, [some (.ref d), some (.long y1), none, some (.int (x3 + (1 : Int32)))], [], (hp I L), 0, 0)) (some (some (.int x3), (hp I L), 0, 0))) none)) := by
  rcases hd with rfl | rfl
  · exact (zrun_go zZ [0, 2] 400 _ _).trans rfl
  · exact (zrun_go zZ [0, 2] 400 _ _).trans rfl
theorem c_X1_areMates {d : Nat} (hd : d = 11 ∨ d = 18) (I : zI) (L : zL) (x1 : Int32) (x2 : Int32) : zcall zZ nX1_areMates [.ref d, .int x1, .int x2] (hp I L) = (zrun zZ kX1_areMates (0, [some (.ref d), some (.int x1), some (.int x2)], [], (hp I L), 0, 0)).map (fun r => (r.1, r.2.1)) := by
  rcases hd with rfl | rfl
  · exact (zcall_ent (M := kX1_areMates) (S := (0, [some (.ref 11), some (.int x1), some (.int x2)], [], (hp I L), 0, 0)) rfl rfl).trans rfl
  · exact (zcall_ent (M := kX1_areMates) (S := (0, [some (.ref 18), some (.int x1), some (.int x2)], [], (hp I L), 0, 0)) rfl rfl).trans rfl
theorem e_X1_areMates_0 {d : Nat} (hd : d = 11 ∨ d = 18) (I : zI) (L : zL) (x1 : Int32) (x2 : Int32) : zrun zZ kX1_areMates (0, [some (.ref d), some (.int x1), some (.int x2)], [], (hp I L), 0, 0) = (cond (zin x1 6) (cond (zin x2 6) (cond (!decide ((I (d + 4) (x1).toNatClampNeg) = (I (d + 4) (x2).toNatClampNeg))) (zrun zZ kX1_areMates (34, [none, none, none], [], (hp I L), 0, 0)) (cond (zin x1 6) (cond (zin x2 6) (cond (!decide ((I (d + 5) (x1).toNatClampNeg) = (I (d + 5) (x2).toNatClampNeg))) (zrun zZ kX1_areMates (34, [none, none, none], [], (hp I L), 0, 0)) (zrun zZ kX1_areMates (35, [none, none, none], [.int (1 : Int32)], (hp I L), 0, 0))) none) none)) none) none) := by
  rcases hd with rfl | rfl
  · exact (zrun_go zZ [0, 34, 35] 400 _ _).trans rfl
  · exact (zrun_go zZ [0, 34, 35] 400 _ _).trans rfl
theorem e_X1_areMates_34 {d : Nat} (hd : d = 11 ∨ d = 18) (I : zI) (L : zL) : zrun zZ kX1_areMates (34, [none, none, none], [], (hp I L), 0, 0) = (zrun zZ kX1_areMates (35, [none, none, none], [.int (0 : Int32)], (hp I L), 0, 0)) := by
  rcases hd with rfl | rfl
  · exact (zrun_go zZ [0, 34, 35] 400 _ _).trans rfl
  · exact (zrun_go zZ [0, 34, 35] 400 _ _).trans rfl
theorem e_X1_areMates_35 {d : Nat} (hd : d = 11 ∨ d = 18) (I : zI) (L : zL) (xs0 : Int32) : zrun zZ kX1_areMates (35, [none, none, none], [.int xs0], (hp I L), 0, 0) = (cond (znar .boolean xs0 && true && true) (some (some (.int xs0), (hp I L), 0, 0)) none) := by
  rcases hd with rfl | rfl
  · exact (zrun_go zZ [0, 34, 35] 400 _ _).trans rfl
  · exact (zrun_go zZ [0, 34, 35] 400 _ _).trans rfl
theorem c_X1_leader {d : Nat} (hd : d = 11 ∨ d = 18) (I : zI) (L : zL) (x1 : Int32) : zcall zZ nX1_leader [.ref d, .int x1] (hp I L) = (zrun zZ kX1_leader (0, [some (.ref d), some (.int x1), none], [], (hp I L), 0, 0)).map (fun r => (r.1, r.2.1)) := by
  rcases hd with rfl | rfl
  · exact (zcall_ent (M := kX1_leader) (S := (0, [some (.ref 11), some (.int x1), none], [], (hp I L), 0, 0)) rfl rfl).trans rfl
  · exact (zcall_ent (M := kX1_leader) (S := (0, [some (.ref 18), some (.int x1), none], [], (hp I L), 0, 0)) rfl rfl).trans rfl
theorem e_X1_leader_0 {d : Nat} (hd : d = 11 ∨ d = 18) (I : zI) (L : zL) (x1 : Int32) : zrun zZ kX1_leader (0, [some (.ref d), some (.int x1), none], [], (hp I L), 0, 0) = (zrun zZ kX1_leader (2, [some (.ref d), some (.int x1), some (.int (0 : Int32))], [], (hp I L), 0, 0)) := by
  rcases hd with rfl | rfl
  · exact (zrun_go zZ [0, 2, 13] 400 _ _).trans rfl
  · exact (zrun_go zZ [0, 2, 13] 400 _ _).trans rfl
theorem e_X1_leader_2 {d : Nat} (hd : d = 11 ∨ d = 18) (I : zI) (L : zL) (x1 : Int32) (x2 : Int32) : zrun zZ kX1_leader (2, [some (.ref d), some (.int x1), some (.int x2)], [], (hp I L), 0, 0) = (cond (!decide (x2 < x1)) (some (some (.int x1), (hp I L), 0, 0)) ((zcall zZ nX1_areMates [.ref d, .int x1, .int x2] (hp I L)).bind (fun q => zrun zZ kX1_leader (13, [some (.ref d), some (.int x1), some (.int x2)], q.1.toList ++ [], q.2, 0, 0)))) := by
  rcases hd with rfl | rfl
  · exact (zrun_go zZ [0, 2, 13] 400 _ _).trans rfl
  · exact (zrun_go zZ [0, 2, 13] 400 _ _).trans rfl
theorem e_X1_leader_13 {d : Nat} (hd : d = 11 ∨ d = 18) (I : zI) (L : zL) (x1 : Int32) (x2 : Int32) (xs0 : Int32) : zrun zZ kX1_leader (13, [some (.ref d), some (.int x1), some (.int x2)], [.int xs0], (hp I L), 0, 0) = (cond (decide (xs0 = (0 : Int32))) (zrun zZ kX1_leader (2, [some (.ref d), some (.int x1), some (.int (x2 + (1 : Int32)))], [], (hp I L), 0, 0)) (some (some (.int x2), (hp I L), 0, 0))) := by
  rcases hd with rfl | rfl
  · exact (zrun_go zZ [0, 2, 13] 400 _ _).trans rfl
  · exact (zrun_go zZ [0, 2, 13] 400 _ _).trans rfl
theorem c_X1_jointDays {d : Nat} (hd : d = 11 ∨ d = 18) (I : zI) (L : zL) (x1 : Int32) : zcall zZ nX1_jointDays [.ref d, .int x1] (hp I L) = (zrun zZ kX1_jointDays (0, [some (.ref d), some (.int x1), none, none], [], (hp I L), 0, 0)).map (fun r => (r.1, r.2.1)) := by
  rcases hd with rfl | rfl
  · exact (zcall_ent (M := kX1_jointDays) (S := (0, [some (.ref 11), some (.int x1), none, none], [], (hp I L), 0, 0)) rfl rfl).trans rfl
  · exact (zcall_ent (M := kX1_jointDays) (S := (0, [some (.ref 18), some (.int x1), none, none], [], (hp I L), 0, 0)) rfl rfl).trans rfl
theorem e_X1_jointDays_0 {d : Nat} (hd : d = 11 ∨ d = 18) (I : zI) (L : zL) (x1 : Int32) : zrun zZ kX1_jointDays (0, [some (.ref d), some (.int x1), none, none], [], (hp I L), 0, 0) = (zrun zZ kX1_jointDays (4, [some (.ref d), some (.int x1), some (.int (0 : Int32)), some (.int (0 : Int32))], [], (hp I L), 0, 0)) := by
  rcases hd with rfl | rfl
  · exact (zrun_go zZ [0, 4, 18, 30] 400 _ _).trans rfl
  · exact (zrun_go zZ [0, 4, 18, 30] 400 _ _).trans rfl
theorem e_X1_jointDays_4 {d : Nat} (hd : d = 11 ∨ d = 18) (I : zI) (L : zL) (x1 : Int32) (x2 : Int32) (x3 : Int32) : zrun zZ kX1_jointDays (4, [some (.ref d), some (.int x1), some (.int x2), some (.int x3)], [], (hp I L), 0, 0) = (cond (!decide (x3 < (I d 9))) (some (some (.int x2), (hp I L), 0, 0)) ((zcall zZ nX1_areMates [.ref d, .int x1, .int x3] (hp I L)).bind (fun q => zrun zZ kX1_jointDays (18, [some (.ref d), some (.int x1), some (.int x2), some (.int x3)], q.1.toList ++ [], q.2, 0, 0)))) := by
  rcases hd with rfl | rfl
  · exact (zrun_go zZ [0, 4, 18, 30] 400 _ _).trans rfl
  · exact (zrun_go zZ [0, 4, 18, 30] 400 _ _).trans rfl
theorem e_X1_jointDays_18 {d : Nat} (hd : d = 11 ∨ d = 18) (I : zI) (L : zL) (x1 : Int32) (x2 : Int32) (x3 : Int32) (xs0 : Int32) : zrun zZ kX1_jointDays (18, [some (.ref d), some (.int x1), some (.int x2), some (.int x3)], [.int xs0], (hp I L), 0, 0) = (cond (decide (xs0 = (0 : Int32))) (zrun zZ kX1_jointDays (30, [some (.ref d), some (.int x1), some (.int x2), some (.int x3)], [], (hp I L), 0, 0)) (cond (zin x3 6) (zrun zZ kX1_jointDays (30, [some (.ref d), some (.int x1), some (.int (x2 ||| (I (d + 6) (x3).toNatClampNeg))), some (.int x3)], [], (hp I L), 0, 0)) none)) := by
  rcases hd with rfl | rfl
  · exact (zrun_go zZ [0, 4, 18, 30] 400 _ _).trans rfl
  · exact (zrun_go zZ [0, 4, 18, 30] 400 _ _).trans rfl
theorem e_X1_jointDays_30 {d : Nat} (hd : d = 11 ∨ d = 18) (I : zI) (L : zL) (x1 : Int32) (x2 : Int32) (x3 : Int32) : zrun zZ kX1_jointDays (30, [some (.ref d), some (.int x1), some (.int x2), some (.int x3)], [], (hp I L), 0, 0) = (zrun zZ kX1_jointDays (4, [some (.ref d), some (.int x1), some (.int x2), some (.int (x3 + (1 : Int32)))], [], (hp I L), 0, 0)) := by
  rcases hd with rfl | rfl
  · exact (zrun_go zZ [0, 4, 18, 30] 400 _ _).trans rfl
  · exact (zrun_go zZ [0, 4, 18, 30] 400 _ _).trans rfl
theorem c_X1_trainsOn {d : Nat} (hd : d = 11 ∨ d = 18) (I : zI) (L : zL) (x1 : Int32) : zcall zZ nX1_trainsOn [.ref d, .int x1] (hp I L) = (zrun zZ kX1_trainsOn (0, [some (.ref d), some (.int x1), none, none], [], (hp I L), 0, 0)).map (fun r => (r.1, r.2.1)) := by
  rcases hd with rfl | rfl
  · exact (zcall_ent (M := kX1_trainsOn) (S := (0, [some (.ref 11), some (.int x1), none, none], [], (hp I L), 0, 0)) rfl rfl).trans rfl
  · exact (zcall_ent (M := kX1_trainsOn) (S := (0, [some (.ref 18), some (.int x1), none, none], [], (hp I L), 0, 0)) rfl rfl).trans rfl
theorem e_X1_trainsOn_0 {d : Nat} (hd : d = 11 ∨ d = 18) (I : zI) (L : zL) (x1 : Int32) : zrun zZ kX1_trainsOn (0, [some (.ref d), some (.int x1), none, none], [], (hp I L), 0, 0) = (zrun zZ kX1_trainsOn (4, [some (.ref d), some (.int x1), some (.int (0 : Int32)), some (.int (0 : Int32))], [], (hp I L), 0, 0)) := by
  rcases hd with rfl | rfl
  · exact (zrun_go zZ [0, 4] 400 _ _).trans rfl
  · exact (zrun_go zZ [0, 4] 400 _ _).trans rfl
theorem e_X1_trainsOn_4 {d : Nat} (hd : d = 11 ∨ d = 18) (I : zI) (L : zL) (x1 : Int32) (x2 : Int32) (x3 : Int32) : zrun zZ kX1_trainsOn (4, [some (.ref d), some (.int x1), some (.int x2), some (.int x3)], [], (hp I L), 0, 0) = (cond (!decide (x3 < (I d 9))) (some (some (.int x2), (hp I L), 0, 0)) (cond (zin x3 6) (zrun zZ kX1_trainsOn (4, [some (.ref d), some (.int x1), some (.int (x2 ||| ((((I (d + 6) (x3).toNatClampNeg) >>> (x1 &&& 31)) &&& (1 : Int32)) <<< (x3 &&& 31)))), some (.int (x3 + (1 : Int32)))], [], (hp I L), 0, 0)) none)) := by
  rcases hd with rfl | rfl
  · exact (zrun_go zZ [0, 4] 400 _ _).trans rfl
  · exact (zrun_go zZ [0, 4] 400 _ _).trans rfl
theorem c_X3_kindOf (I : zI) (L : zL) (y1 : Int64) : zcall zZ nX3_kindOf [.ref 1, .long y1] (hp I L) = (zrun zZ kX3_kindOf (0, [some (.ref 1), some (.long y1), none, none], [], (hp I L), 0, 0)).map (fun r => (r.1, r.2.1)) := (zcall_ent (M := kX3_kindOf) (S := (0, [some (.ref 1), some (.long y1), none, none], [], (hp I L), 0, 0)) rfl rfl).trans rfl
theorem e_X3_kindOf_0 (I : zI) (L : zL) (y1 : Int64) : zrun zZ kX3_kindOf (0, [some (.ref 1), some (.long y1), none, none], [], (hp I L), 0, 0) = (zrun zZ kX3_kindOf (2, [some (.ref 1), some (.long y1), none, some (.int (0 : Int32))], [], (hp I L), 0, 0)) := (zrun_go zZ [0, 2] 400 _ _).trans rfl
theorem e_X3_kindOf_2 (I : zI) (L : zL) (y1 : Int64) (x3 : Int32) : zrun zZ kX3_kindOf (2, [some (.ref 1), some (.long y1), none, some (.int x3)], [], (hp I L), 0, 0) = (cond (!decide (x3 < (19 : Int32))) (some (some (.int (19 : Int32)), (hp I L), 0, 0)) (cond (zin x3 19) (cond (!decide ((lg_cmp (L 2 (x3).toNatClampNeg) y1) = (0 : Int32))) (zrun zZ kX3_kindOf (2, [some (.ref 1), some (.long y1), none, some (.int (x3 + (1 : Int32)))], [], (hp I L), 0, 0)) (some (some (.int x3), (hp I L), 0, 0))) none)) := (zrun_go zZ [0, 2] 400 _ _).trans rfl
theorem c_X6_add (I : zI) (L : zL) (x1 : Int32) : zcall zZ nX6_add [.ref 3, .int x1] (hp I L) = (zrun zZ kX6_add (0, [some (.ref 3), some (.int x1), none], [], (hp I L), 0, 0)).map (fun r => (r.1, r.2.1)) := (zcall_ent (M := kX6_add) (S := (0, [some (.ref 3), some (.int x1), none], [], (hp I L), 0, 0)) rfl rfl).trans rfl
theorem e_X6_add_0 (I : zI) (L : zL) (x1 : Int32) : zrun zZ kX6_add (0, [some (.ref 3), some (.int x1), none], [], (hp I L), 0, 0) = (zrun zZ kX6_add (3, [some (.ref 3), some (.int x1), some (.int (24 : Int32))], [], (hp I L), 0, 0)) := (zrun_go zZ [0, 3, 46] 400 _ _).trans rfl
theorem e_X6_add_3 (I : zI) (L : zL) (x1 : Int32) (x2 : Int32) : zrun zZ kX6_add (3, [some (.ref 3), some (.int x1), some (.int x2)], [], (hp I L), 0, 0) = (cond (decide (x2 < (0 : Int32))) (zrun zZ kX6_add (46, [none, none, none], [], (hp I L), 0, 0)) (cond (!decide ((I 3 1) < (600 : Int32))) (zrun zZ kX6_add (46, [none, none, none], [], (hp I L), 0, 0)) (cond (zin (I 3 1) 600) (zrun zZ kX6_add (3, [some (.ref 3), some (.int x1), some (.int (x2 + (-8 : Int32)))], [], (hp (zup (zup I 4 ((I 3 1)).toNatClampNeg (vp_nar .byte ((x1 >>> (x2 &&& 31))).toInt8.toInt32)) 3 1 ((I 3 1) + (1 : Int32))) L), 0, 0)) none))) := (zrun_go zZ [0, 3, 46] 400 _ _).trans rfl
theorem e_X6_add_46 (I : zI) (L : zL) : zrun zZ kX6_add (46, [none, none, none], [], (hp I L), 0, 0) = (some (none, (hp I L), 0, 0)) := (zrun_go zZ [0, 3, 46] 400 _ _).trans rfl
theorem c_X7_clear (I : zI) (L : zL) (x1 : Int32) : zcall zZ nX7_clear [.ref 26, .int x1] (hp I L) = (zrun zZ kX7_clear (0, [some (.ref 26), some (.int x1)], [], (hp I L), 0, 0)).map (fun r => (r.1, r.2.1)) := (zcall_ent (M := kX7_clear) (S := (0, [some (.ref 26), some (.int x1)], [], (hp I L), 0, 0)) rfl rfl).trans rfl
theorem e_X7_clear_0 (I : zI) (L : zL) (x1 : Int32) : zrun zZ kX7_clear (0, [some (.ref 26), some (.int x1)], [], (hp I L), 0, 0) = (some (none, (hp (zup (zup (zup (zup (zup (zup (zup (zup I 26 4 (1 : Int32)) 26 5 x1) 26 8 (0 : Int32)) 26 9 (0 : Int32)) 26 10 (0 : Int32)) 26 11 (0 : Int32)) 26 12 (0 : Int32)) 26 13 (0 : Int32)) L), 0, 0)) := (zrun_go zZ [0] 400 _ _).trans rfl
theorem c_X7_addSpan (I : zI) (L : zL) (x1 : Int32) (x2 : Int32) (x3 : Int32) : zcall zZ nX7_addSpan [.ref 26, .int x1, .int x2, .int x3] (hp I L) = (zrun zZ kX7_addSpan (0, [some (.ref 26), some (.int x1), some (.int x2), some (.int x3)], [], (hp I L), 0, 0)).map (fun r => (r.1, r.2.1)) := (zcall_ent (M := kX7_addSpan) (S := (0, [some (.ref 26), some (.int x1), some (.int x2), some (.int x3)], [], (hp I L), 0, 0)) rfl rfl).trans rfl
theorem e_X7_addSpan_0 (I : zI) (L : zL) (x1 : Int32) (x2 : Int32) (x3 : Int32) : zrun zZ kX7_addSpan (0, [some (.ref 26), some (.int x1), some (.int x2), some (.int x3)], [], (hp I L), 0, 0) = (cond (!decide ((I 26 8) < (28 : Int32))) (zrun zZ kX7_addSpan (49, [none, none, none, none], [], (hp I L), 0, 0)) (cond (zin (I 26 8) 28) (cond (zin (I 26 8) 28) (cond (zin (I 26 8) 28) (zrun zZ kX7_addSpan (49, [none, none, none, none], [], (hp (zup (zup (zup (zup I 27 ((I 26 8)).toNatClampNeg x1) 28 ((I 26 8)).toNatClampNeg x2) 29 ((I 26 8)).toNatClampNeg x3) 26 8 ((I 26 8) + (1 : Int32))) L), 0, 0)) none) none) none)) := (zrun_go zZ [0, 49] 400 _ _).trans rfl
theorem e_X7_addSpan_49 (I : zI) (L : zL) : zrun zZ kX7_addSpan (49, [none, none, none, none], [], (hp I L), 0, 0) = (some (none, (hp I L), 0, 0)) := (zrun_go zZ [0, 49] 400 _ _).trans rfl
