theorem zokl_of {Z : Nat → zMeth} {M : zMeth} : ∀ (cs : List (List (Option zPl))) (pc : Nat), (∀ k, k < cs.length → (Nat.ble (cs.getD k []).length 16 && zokc Z M (pc + 16 * k) (cs.getD k [])) = true) → zokl Z M pc cs = true
  | [], _, _ => rfl
  | c :: r, pc, h => by
    have h0 := h 0 (Nat.zero_lt_succ _)
    have h1 := zokl_of r (pc + 16) (fun k hk => by
      have := h (k + 1) (Nat.succ_lt_succ hk)
      rw [show pc + 16 * (k + 1) = pc + 16 + 16 * k by omega] at this
      exact this)
    show (Nat.ble c.length 16 && zokc Z M pc c && zokl Z M (pc + 16) r) = true
    rw [h1, Bool.and_true]
    exact h0
set_option maxRecDepth 100000 in
theorem okL_r0 : (Nat.ble ((zcode kL_law).getD 0 []).length 16 && zokc zZ kL_law (0 + 16 * 0) ((zcode kL_law).getD 0 [])) = true := by decide +kernel
set_option maxRecDepth 100000 in
theorem okL_r1 : (Nat.ble ((zcode kL_law).getD 1 []).length 16 && zokc zZ kL_law (0 + 16 * 1) ((zcode kL_law).getD 1 [])) = true := by decide +kernel
set_option maxRecDepth 100000 in
theorem okL_r2 : (Nat.ble ((zcode kL_law).getD 2 []).length 16 && zokc zZ kL_law (0 + 16 * 2) ((zcode kL_law).getD 2 [])) = true := by decide +kernel
set_option maxRecDepth 100000 in
theorem okL_r3 : (Nat.ble ((zcode kL_law).getD 3 []).length 16 && zokc zZ kL_law (0 + 16 * 3) ((zcode kL_law).getD 3 [])) = true := by decide +kernel
set_option maxRecDepth 100000 in
theorem okL_r4 : (Nat.ble ((zcode kL_law).getD 4 []).length 16 && zokc zZ kL_law (0 + 16 * 4) ((zcode kL_law).getD 4 [])) = true := by decide +kernel
set_option maxRecDepth 100000 in
theorem okL_r5 : (Nat.ble ((zcode kL_law).getD 5 []).length 16 && zokc zZ kL_law (0 + 16 * 5) ((zcode kL_law).getD 5 [])) = true := by decide +kernel
set_option maxRecDepth 100000 in
theorem okL_r6 : (Nat.ble ((zcode kL_law).getD 6 []).length 16 && zokc zZ kL_law (0 + 16 * 6) ((zcode kL_law).getD 6 [])) = true := by decide +kernel
set_option maxRecDepth 100000 in
theorem okL_r7 : (Nat.ble ((zcode kL_law).getD 7 []).length 16 && zokc zZ kL_law (0 + 16 * 7) ((zcode kL_law).getD 7 [])) = true := by decide +kernel
set_option maxRecDepth 100000 in
theorem okL_r8 : (Nat.ble ((zcode kL_law).getD 8 []).length 16 && zokc zZ kL_law (0 + 16 * 8) ((zcode kL_law).getD 8 [])) = true := by decide +kernel
set_option maxRecDepth 100000 in
theorem okL_r9 : (Nat.ble ((zcode kL_law).getD 9 []).length 16 && zokc zZ kL_law (0 + 16 * 9) ((zcode kL_law).getD 9 [])) = true := by decide +kernel
set_option maxRecDepth 100000 in
theorem okL_r10 : (Nat.ble ((zcode kL_law).getD 10 []).length 16 && zokc zZ kL_law (0 + 16 * 10) ((zcode kL_law).getD 10 [])) = true := by decide +kernel
set_option maxRecDepth 100000 in
theorem okL_r11 : (Nat.ble ((zcode kL_law).getD 11 []).length 16 && zokc zZ kL_law (0 + 16 * 11) ((zcode kL_law).getD 11 [])) = true := by decide +kernel
set_option maxRecDepth 100000 in
theorem okL_r12 : (Nat.ble ((zcode kL_law).getD 12 []).length 16 && zokc zZ kL_law (0 + 16 * 12) ((zcode kL_law).getD 12 [])) = true := by decide +kernel
set_option maxRecDepth 100000 in
theorem okL_r13 : (Nat.ble ((zcode kL_law).getD 13 []).length 16 && zokc zZ kL_law (0 + 16 * 13) ((zcode kL_law).getD 13 [])) = true := by decide +kernel
set_option maxRecDepth 100000 in
theorem okL_r14 : (Nat.ble ((zcode kL_law).getD 14 []).length 16 && zokc zZ kL_law (0 + 16 * 14) ((zcode kL_law).getD 14 [])) = true := by decide +kernel
set_option maxRecDepth 100000 in
theorem okL_r15 : (Nat.ble ((zcode kL_law).getD 15 []).length 16 && zokc zZ kL_law (0 + 16 * 15) ((zcode kL_law).getD 15 [])) = true := by decide +kernel
set_option maxRecDepth 100000 in
theorem okL_r16 : (Nat.ble ((zcode kL_law).getD 16 []).length 16 && zokc zZ kL_law (0 + 16 * 16) ((zcode kL_law).getD 16 [])) = true := by decide +kernel
set_option maxRecDepth 100000 in
theorem okL_r17 : (Nat.ble ((zcode kL_law).getD 17 []).length 16 && zokc zZ kL_law (0 + 16 * 17) ((zcode kL_law).getD 17 [])) = true := by decide +kernel
set_option maxRecDepth 100000 in
theorem okL_r18 : (Nat.ble ((zcode kL_law).getD 18 []).length 16 && zokc zZ kL_law (0 + 16 * 18) ((zcode kL_law).getD 18 [])) = true := by decide +kernel
set_option maxRecDepth 100000 in
theorem okL_r19 : (Nat.ble ((zcode kL_law).getD 19 []).length 16 && zokc zZ kL_law (0 + 16 * 19) ((zcode kL_law).getD 19 [])) = true := by decide +kernel
set_option maxRecDepth 100000 in
theorem okL_r20 : (Nat.ble ((zcode kL_law).getD 20 []).length 16 && zokc zZ kL_law (0 + 16 * 20) ((zcode kL_law).getD 20 [])) = true := by decide +kernel
set_option maxRecDepth 100000 in
theorem okL_r21 : (Nat.ble ((zcode kL_law).getD 21 []).length 16 && zokc zZ kL_law (0 + 16 * 21) ((zcode kL_law).getD 21 [])) = true := by decide +kernel
set_option maxRecDepth 100000 in
theorem okL_r22 : (Nat.ble ((zcode kL_law).getD 22 []).length 16 && zokc zZ kL_law (0 + 16 * 22) ((zcode kL_law).getD 22 [])) = true := by decide +kernel
set_option maxRecDepth 100000 in
theorem okL_r23 : (Nat.ble ((zcode kL_law).getD 23 []).length 16 && zokc zZ kL_law (0 + 16 * 23) ((zcode kL_law).getD 23 [])) = true := by decide +kernel
set_option maxRecDepth 100000 in
theorem okL_r24 : (Nat.ble ((zcode kL_law).getD 24 []).length 16 && zokc zZ kL_law (0 + 16 * 24) ((zcode kL_law).getD 24 [])) = true := by decide +kernel
set_option maxRecDepth 100000 in
theorem okL_r25 : (Nat.ble ((zcode kL_law).getD 25 []).length 16 && zokc zZ kL_law (0 + 16 * 25) ((zcode kL_law).getD 25 [])) = true := by decide +kernel
set_option maxRecDepth 100000 in
theorem okL_r26 : (Nat.ble ((zcode kL_law).getD 26 []).length 16 && zokc zZ kL_law (0 + 16 * 26) ((zcode kL_law).getD 26 [])) = true := by decide +kernel
set_option maxRecDepth 100000 in
theorem okL_r27 : (Nat.ble ((zcode kL_law).getD 27 []).length 16 && zokc zZ kL_law (0 + 16 * 27) ((zcode kL_law).getD 27 [])) = true := by decide +kernel
set_option maxRecDepth 100000 in
theorem okL_r28 : (Nat.ble ((zcode kL_law).getD 28 []).length 16 && zokc zZ kL_law (0 + 16 * 28) ((zcode kL_law).getD 28 [])) = true := by decide +kernel
set_option maxRecDepth 100000 in
theorem okL_r29 : (Nat.ble ((zcode kL_law).getD 29 []).length 16 && zokc zZ kL_law (0 + 16 * 29) ((zcode kL_law).getD 29 [])) = true := by decide +kernel
set_option maxRecDepth 100000 in
theorem okL_r30 : (Nat.ble ((zcode kL_law).getD 30 []).length 16 && zokc zZ kL_law (0 + 16 * 30) ((zcode kL_law).getD 30 [])) = true := by decide +kernel
set_option maxRecDepth 100000 in
theorem okL_r31 : (Nat.ble ((zcode kL_law).getD 31 []).length 16 && zokc zZ kL_law (0 + 16 * 31) ((zcode kL_law).getD 31 [])) = true := by decide +kernel
set_option maxRecDepth 100000 in
theorem okL_r32 : (Nat.ble ((zcode kL_law).getD 32 []).length 16 && zokc zZ kL_law (0 + 16 * 32) ((zcode kL_law).getD 32 [])) = true := by decide +kernel
set_option maxRecDepth 100000 in
theorem okL_r33 : (Nat.ble ((zcode kL_law).getD 33 []).length 16 && zokc zZ kL_law (0 + 16 * 33) ((zcode kL_law).getD 33 [])) = true := by decide +kernel
set_option maxRecDepth 100000 in
theorem okL_r34 : (Nat.ble ((zcode kL_law).getD 34 []).length 16 && zokc zZ kL_law (0 + 16 * 34) ((zcode kL_law).getD 34 [])) = true := by decide +kernel
set_option maxRecDepth 100000 in
theorem okL_r35 : (Nat.ble ((zcode kL_law).getD 35 []).length 16 && zokc zZ kL_law (0 + 16 * 35) ((zcode kL_law).getD 35 [])) = true := by decide +kernel
set_option maxRecDepth 100000 in
theorem okL_r36 : (Nat.ble ((zcode kL_law).getD 36 []).length 16 && zokc zZ kL_law (0 + 16 * 36) ((zcode kL_law).getD 36 [])) = true := by decide +kernel
set_option maxRecDepth 100000 in
theorem okL_r37 : (Nat.ble ((zcode kL_law).getD 37 []).length 16 && zokc zZ kL_law (0 + 16 * 37) ((zcode kL_law).getD 37 [])) = true := by decide +kernel
set_option maxRecDepth 100000 in
theorem okL_r38 : (Nat.ble ((zcode kL_law).getD 38 []).length 16 && zokc zZ kL_law (0 + 16 * 38) ((zcode kL_law).getD 38 [])) = true := by decide +kernel
set_option maxRecDepth 100000 in
theorem okL_r39 : (Nat.ble ((zcode kL_law).getD 39 []).length 16 && zokc zZ kL_law (0 + 16 * 39) ((zcode kL_law).getD 39 [])) = true := by decide +kernel
set_option maxRecDepth 100000 in
theorem okL_r40 : (Nat.ble ((zcode kL_law).getD 40 []).length 16 && zokc zZ kL_law (0 + 16 * 40) ((zcode kL_law).getD 40 [])) = true := by decide +kernel
set_option maxRecDepth 100000 in
theorem okL_r41 : (Nat.ble ((zcode kL_law).getD 41 []).length 16 && zokc zZ kL_law (0 + 16 * 41) ((zcode kL_law).getD 41 [])) = true := by decide +kernel
set_option maxRecDepth 100000 in
theorem okL_r42 : (Nat.ble ((zcode kL_law).getD 42 []).length 16 && zokc zZ kL_law (0 + 16 * 42) ((zcode kL_law).getD 42 [])) = true := by decide +kernel
set_option maxRecDepth 100000 in
theorem okL_r43 : (Nat.ble ((zcode kL_law).getD 43 []).length 16 && zokc zZ kL_law (0 + 16 * 43) ((zcode kL_law).getD 43 [])) = true := by decide +kernel
set_option maxRecDepth 100000 in
theorem okL_r44 : (Nat.ble ((zcode kL_law).getD 44 []).length 16 && zokc zZ kL_law (0 + 16 * 44) ((zcode kL_law).getD 44 [])) = true := by decide +kernel
set_option maxRecDepth 100000 in
theorem okL_r45 : (Nat.ble ((zcode kL_law).getD 45 []).length 16 && zokc zZ kL_law (0 + 16 * 45) ((zcode kL_law).getD 45 [])) = true := by decide +kernel
set_option maxRecDepth 100000 in
theorem okL_r46 : (Nat.ble ((zcode kL_law).getD 46 []).length 16 && zokc zZ kL_law (0 + 16 * 46) ((zcode kL_law).getD 46 [])) = true := by decide +kernel
set_option maxRecDepth 100000 in
theorem okL_r47 : (Nat.ble ((zcode kL_law).getD 47 []).length 16 && zokc zZ kL_law (0 + 16 * 47) ((zcode kL_law).getD 47 [])) = true := by decide +kernel
set_option maxRecDepth 100000 in
theorem okL_r48 : (Nat.ble ((zcode kL_law).getD 48 []).length 16 && zokc zZ kL_law (0 + 16 * 48) ((zcode kL_law).getD 48 [])) = true := by decide +kernel
set_option maxRecDepth 100000 in
theorem okL_r49 : (Nat.ble ((zcode kL_law).getD 49 []).length 16 && zokc zZ kL_law (0 + 16 * 49) ((zcode kL_law).getD 49 [])) = true := by decide +kernel
set_option maxRecDepth 100000 in
theorem okL_r50 : (Nat.ble ((zcode kL_law).getD 50 []).length 16 && zokc zZ kL_law (0 + 16 * 50) ((zcode kL_law).getD 50 [])) = true := by decide +kernel
set_option maxRecDepth 100000 in
theorem okL_r51 : (Nat.ble ((zcode kL_law).getD 51 []).length 16 && zokc zZ kL_law (0 + 16 * 51) ((zcode kL_law).getD 51 [])) = true := by decide +kernel
set_option maxRecDepth 100000 in
theorem okL_r52 : (Nat.ble ((zcode kL_law).getD 52 []).length 16 && zokc zZ kL_law (0 + 16 * 52) ((zcode kL_law).getD 52 [])) = true := by decide +kernel
set_option maxRecDepth 100000 in
theorem okL_r53 : (Nat.ble ((zcode kL_law).getD 53 []).length 16 && zokc zZ kL_law (0 + 16 * 53) ((zcode kL_law).getD 53 [])) = true := by decide +kernel
set_option maxRecDepth 100000 in
theorem okL_r54 : (Nat.ble ((zcode kL_law).getD 54 []).length 16 && zokc zZ kL_law (0 + 16 * 54) ((zcode kL_law).getD 54 [])) = true := by decide +kernel
set_option maxRecDepth 100000 in
theorem okL_r55 : (Nat.ble ((zcode kL_law).getD 55 []).length 16 && zokc zZ kL_law (0 + 16 * 55) ((zcode kL_law).getD 55 [])) = true := by decide +kernel
set_option maxRecDepth 100000 in
theorem okL_r56 : (Nat.ble ((zcode kL_law).getD 56 []).length 16 && zokc zZ kL_law (0 + 16 * 56) ((zcode kL_law).getD 56 [])) = true := by decide +kernel
set_option maxRecDepth 100000 in
theorem okL_r57 : (Nat.ble ((zcode kL_law).getD 57 []).length 16 && zokc zZ kL_law (0 + 16 * 57) ((zcode kL_law).getD 57 [])) = true := by decide +kernel
set_option maxRecDepth 100000 in
theorem okL_r58 : (Nat.ble ((zcode kL_law).getD 58 []).length 16 && zokc zZ kL_law (0 + 16 * 58) ((zcode kL_law).getD 58 [])) = true := by decide +kernel
set_option maxRecDepth 100000 in
theorem okL_r59 : (Nat.ble ((zcode kL_law).getD 59 []).length 16 && zokc zZ kL_law (0 + 16 * 59) ((zcode kL_law).getD 59 [])) = true := by decide +kernel
set_option maxRecDepth 100000 in
theorem okL_r60 : (Nat.ble ((zcode kL_law).getD 60 []).length 16 && zokc zZ kL_law (0 + 16 * 60) ((zcode kL_law).getD 60 [])) = true := by decide +kernel
set_option maxRecDepth 100000 in
theorem okL_r61 : (Nat.ble ((zcode kL_law).getD 61 []).length 16 && zokc zZ kL_law (0 + 16 * 61) ((zcode kL_law).getD 61 [])) = true := by decide +kernel
set_option maxRecDepth 100000 in
theorem okL_r62 : (Nat.ble ((zcode kL_law).getD 62 []).length 16 && zokc zZ kL_law (0 + 16 * 62) ((zcode kL_law).getD 62 [])) = true := by decide +kernel
set_option maxRecDepth 100000 in
theorem okL_r63 : (Nat.ble ((zcode kL_law).getD 63 []).length 16 && zokc zZ kL_law (0 + 16 * 63) ((zcode kL_law).getD 63 [])) = true := by decide +kernel
set_option maxRecDepth 100000 in
theorem okL_r64 : (Nat.ble ((zcode kL_law).getD 64 []).length 16 && zokc zZ kL_law (0 + 16 * 64) ((zcode kL_law).getD 64 [])) = true := by decide +kernel
set_option maxRecDepth 100000 in
theorem okL_r65 : (Nat.ble ((zcode kL_law).getD 65 []).length 16 && zokc zZ kL_law (0 + 16 * 65) ((zcode kL_law).getD 65 [])) = true := by decide +kernel
set_option maxRecDepth 100000 in
theorem okL_r66 : (Nat.ble ((zcode kL_law).getD 66 []).length 16 && zokc zZ kL_law (0 + 16 * 66) ((zcode kL_law).getD 66 [])) = true := by decide +kernel
set_option maxRecDepth 100000 in
theorem okL_r67 : (Nat.ble ((zcode kL_law).getD 67 []).length 16 && zokc zZ kL_law (0 + 16 * 67) ((zcode kL_law).getD 67 [])) = true := by decide +kernel
set_option maxRecDepth 100000 in
theorem okL_r68 : (Nat.ble ((zcode kL_law).getD 68 []).length 16 && zokc zZ kL_law (0 + 16 * 68) ((zcode kL_law).getD 68 [])) = true := by decide +kernel
set_option maxRecDepth 100000 in
theorem okL_r69 : (Nat.ble ((zcode kL_law).getD 69 []).length 16 && zokc zZ kL_law (0 + 16 * 69) ((zcode kL_law).getD 69 [])) = true := by decide +kernel
set_option maxRecDepth 100000 in
theorem okL_r70 : (Nat.ble ((zcode kL_law).getD 70 []).length 16 && zokc zZ kL_law (0 + 16 * 70) ((zcode kL_law).getD 70 [])) = true := by decide +kernel
set_option maxRecDepth 100000 in
theorem okL_r71 : (Nat.ble ((zcode kL_law).getD 71 []).length 16 && zokc zZ kL_law (0 + 16 * 71) ((zcode kL_law).getD 71 [])) = true := by decide +kernel
set_option maxRecDepth 100000 in
theorem okL_r72 : (Nat.ble ((zcode kL_law).getD 72 []).length 16 && zokc zZ kL_law (0 + 16 * 72) ((zcode kL_law).getD 72 [])) = true := by decide +kernel
set_option maxRecDepth 100000 in
theorem okL_r73 : (Nat.ble ((zcode kL_law).getD 73 []).length 16 && zokc zZ kL_law (0 + 16 * 73) ((zcode kL_law).getD 73 [])) = true := by decide +kernel
set_option maxRecDepth 100000 in
theorem okL_r74 : (Nat.ble ((zcode kL_law).getD 74 []).length 16 && zokc zZ kL_law (0 + 16 * 74) ((zcode kL_law).getD 74 [])) = true := by decide +kernel
set_option maxRecDepth 100000 in
theorem okL_r75 : (Nat.ble ((zcode kL_law).getD 75 []).length 16 && zokc zZ kL_law (0 + 16 * 75) ((zcode kL_law).getD 75 [])) = true := by decide +kernel
set_option maxRecDepth 100000 in
theorem okL_r76 : (Nat.ble ((zcode kL_law).getD 76 []).length 16 && zokc zZ kL_law (0 + 16 * 76) ((zcode kL_law).getD 76 [])) = true := by decide +kernel
set_option maxRecDepth 100000 in
theorem okL_r77 : (Nat.ble ((zcode kL_law).getD 77 []).length 16 && zokc zZ kL_law (0 + 16 * 77) ((zcode kL_law).getD 77 [])) = true := by decide +kernel
set_option maxRecDepth 100000 in
theorem okL_r78 : (Nat.ble ((zcode kL_law).getD 78 []).length 16 && zokc zZ kL_law (0 + 16 * 78) ((zcode kL_law).getD 78 [])) = true := by decide +kernel
set_option maxRecDepth 100000 in
theorem okL_r79 : (Nat.ble ((zcode kL_law).getD 79 []).length 16 && zokc zZ kL_law (0 + 16 * 79) ((zcode kL_law).getD 79 [])) = true := by decide +kernel
set_option maxRecDepth 100000 in
theorem okL_r80 : (Nat.ble ((zcode kL_law).getD 80 []).length 16 && zokc zZ kL_law (0 + 16 * 80) ((zcode kL_law).getD 80 [])) = true := by decide +kernel
set_option maxRecDepth 100000 in
theorem okL_r81 : (Nat.ble ((zcode kL_law).getD 81 []).length 16 && zokc zZ kL_law (0 + 16 * 81) ((zcode kL_law).getD 81 [])) = true := by decide +kernel
set_option maxRecDepth 100000 in
theorem okL_r82 : (Nat.ble ((zcode kL_law).getD 82 []).length 16 && zokc zZ kL_law (0 + 16 * 82) ((zcode kL_law).getD 82 [])) = true := by decide +kernel
set_option maxRecDepth 100000 in
theorem okL_r83 : (Nat.ble ((zcode kL_law).getD 83 []).length 16 && zokc zZ kL_law (0 + 16 * 83) ((zcode kL_law).getD 83 [])) = true := by decide +kernel
set_option maxRecDepth 100000 in
theorem okL_r84 : (Nat.ble ((zcode kL_law).getD 84 []).length 16 && zokc zZ kL_law (0 + 16 * 84) ((zcode kL_law).getD 84 [])) = true := by decide +kernel
set_option maxRecDepth 100000 in
theorem okL_r85 : (Nat.ble ((zcode kL_law).getD 85 []).length 16 && zokc zZ kL_law (0 + 16 * 85) ((zcode kL_law).getD 85 [])) = true := by decide +kernel
set_option maxRecDepth 100000 in
theorem okL_r86 : (Nat.ble ((zcode kL_law).getD 86 []).length 16 && zokc zZ kL_law (0 + 16 * 86) ((zcode kL_law).getD 86 [])) = true := by decide +kernel
theorem okL_rows : ∀ k, k < 87 → (Nat.ble ((zcode kL_law).getD k []).length 16 && zokc zZ kL_law (0 + 16 * k) ((zcode kL_law).getD k [])) = true := fun k hk => match k, hk with
  | 0, _ => okL_r0
  | 1, _ => okL_r1
  | 2, _ => okL_r2
  | 3, _ => okL_r3
  | 4, _ => okL_r4
  | 5, _ => okL_r5
  | 6, _ => okL_r6
  | 7, _ => okL_r7
  | 8, _ => okL_r8
  | 9, _ => okL_r9
  | 10, _ => okL_r10
  | 11, _ => okL_r11
  | 12, _ => okL_r12
  | 13, _ => okL_r13
  | 14, _ => okL_r14
  | 15, _ => okL_r15
  | 16, _ => okL_r16
  | 17, _ => okL_r17
  | 18, _ => okL_r18
  | 19, _ => okL_r19
  | 20, _ => okL_r20
  | 21, _ => okL_r21
  | 22, _ => okL_r22
  | 23, _ => okL_r23
  | 24, _ => okL_r24
  | 25, _ => okL_r25
  | 26, _ => okL_r26
  | 27, _ => okL_r27
  | 28, _ => okL_r28
  | 29, _ => okL_r29
  | 30, _ => okL_r30
  | 31, _ => okL_r31
  | 32, _ => okL_r32
  | 33, _ => okL_r33
  | 34, _ => okL_r34
  | 35, _ => okL_r35
  | 36, _ => okL_r36
  | 37, _ => okL_r37
  | 38, _ => okL_r38
  | 39, _ => okL_r39
  | 40, _ => okL_r40
  | 41, _ => okL_r41
  | 42, _ => okL_r42
  | 43, _ => okL_r43
  | 44, _ => okL_r44
  | 45, _ => okL_r45
  | 46, _ => okL_r46
  | 47, _ => okL_r47
  | 48, _ => okL_r48
  | 49, _ => okL_r49
  | 50, _ => okL_r50
  | 51, _ => okL_r51
  | 52, _ => okL_r52
  | 53, _ => okL_r53
  | 54, _ => okL_r54
  | 55, _ => okL_r55
  | 56, _ => okL_r56
  | 57, _ => okL_r57
  | 58, _ => okL_r58
  | 59, _ => okL_r59
  | 60, _ => okL_r60
  | 61, _ => okL_r61
  | 62, _ => okL_r62
  | 63, _ => okL_r63
  | 64, _ => okL_r64
  | 65, _ => okL_r65
  | 66, _ => okL_r66
  | 67, _ => okL_r67
  | 68, _ => okL_r68
  | 69, _ => okL_r69
  | 70, _ => okL_r70
  | 71, _ => okL_r71
  | 72, _ => okL_r72
  | 73, _ => okL_r73
  | 74, _ => okL_r74
  | 75, _ => okL_r75
  | 76, _ => okL_r76
  | 77, _ => okL_r77
  | 78, _ => okL_r78
  | 79, _ => okL_r79
  | 80, _ => okL_r80
  | 81, _ => okL_r81
  | 82, _ => okL_r82
  | 83, _ => okL_r83
  | 84, _ => okL_r84
  | 85, _ => okL_r85
  | 86, _ => okL_r86
  | n + 87, hn => absurd hn (by omega)
theorem okL_law : zokM zZ kL_law = true := by
  have h1 : zokl zZ kL_law 0 (zcode kL_law) = true := zokl_of _ _ (fun k hk => okL_rows k hk)
  have h2 : Nat.blt (zcode kL_law).length 6000 = true := by decide +kernel
  have h3 : plainName (zy kL_law).cls = true := by decide +kernel
  unfold zokM
  rw [h1, h2, h3]
  rfl
