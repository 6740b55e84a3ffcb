/-! constructors: what they do, by places -/
def bR0 : zR := fun _ _ => none
def bR1 : zR := zfil bR0 0 none
def bR2 : zR := zfil bR1 1 none
def bR3 : zR := zfil bR2 2 none
def bR4 : zR := zup bR3 1 0 (some 2)
def bR5 : zR := zfil bR4 3 none
def bR6 : zR := zfil bR5 4 none
def bR7 : zR := zup bR6 3 0 (some 4)
def bR8 : zR := zup bR7 0 0 (some 3)
def bR9 : zR := zfil bR8 5 none
def bR10 : zR := zfil bR9 6 none
def bR11 : zR := zup bR10 5 5 (some 6)
def bR12 : zR := zfil bR11 7 none
def bR13 : zR := zup bR12 5 6 (some 7)
def bR14 : zR := zfil bR13 8 none
def bR15 : zR := zup bR14 5 7 (some 8)
def bR16 : zR := zup bR15 5 4 (some 1)
def bR17 : zR := zup bR16 0 1 (some 5)
def bR18 : zR := zfil bR17 9 none
def bR19 : zR := zfil bR18 10 none
def bR20 : zR := zup bR19 9 0 (some 10)
def bR21 : zR := zup bR20 0 3 (some 9)
def bR22 : zR := zfil bR21 11 none
def bR23 : zR := zfil bR22 12 none
def bR24 : zR := zup bR23 11 0 (some 12)
def bR25 : zR := zfil bR24 13 none
def bR26 : zR := zup bR25 11 1 (some 13)
def bR27 : zR := zfil bR26 14 none
def bR28 : zR := zup bR27 11 2 (some 14)
def bR29 : zR := zfil bR28 15 none
def bR30 : zR := zup bR29 11 3 (some 15)
def bR31 : zR := zfil bR30 16 none
def bR32 : zR := zup bR31 11 4 (some 16)
def bR33 : zR := zfil bR32 17 none
def bR34 : zR := zup bR33 11 5 (some 17)
def bR35 : zR := zup bR34 0 4 (some 11)
def bR36 : zR := zfil bR35 18 none
def bR37 : zR := zfil bR36 19 none
def bR38 : zR := zup bR37 18 0 (some 19)
def bR39 : zR := zfil bR38 20 none
def bR40 : zR := zup bR39 18 1 (some 20)
def bR41 : zR := zfil bR40 21 none
def bR42 : zR := zup bR41 18 2 (some 21)
def bR43 : zR := zfil bR42 22 none
def bR44 : zR := zup bR43 18 3 (some 22)
def bR45 : zR := zfil bR44 23 none
def bR46 : zR := zup bR45 18 4 (some 23)
def bR47 : zR := zfil bR46 24 none
def bR48 : zR := zup bR47 18 5 (some 24)
def bR49 : zR := zup bR48 0 5 (some 18)
def bR50 : zR := zfil bR49 25 none
def bR51 : zR := zfil bR50 26 none
def bR52 : zR := zfil bR51 27 none
def bR53 : zR := zup bR52 26 0 (some 27)
def bR54 : zR := zfil bR53 28 none
def bR55 : zR := zup bR54 26 1 (some 28)
def bR56 : zR := zfil bR55 29 none
def bR57 : zR := zup bR56 26 2 (some 29)
def bR58 : zR := zfil bR57 30 none
def bR59 : zR := zup bR58 26 3 (some 30)
def bR60 : zR := zup bR59 25 1 (some 26)
def bR61 : zR := zfil bR60 31 none
def bR62 : zR := zup bR61 25 2 (some 31)
def bR63 : zR := zfil bR62 32 none
def bR64 : zR := zup bR63 25 3 (some 32)
def bR65 : zR := zfil bR64 33 none
def bR66 : zR := zup bR65 25 4 (some 33)
def bR67 : zR := zfil bR66 34 none
def bR68 : zR := zup bR67 25 5 (some 34)
def bR69 : zR := zfil bR68 35 none
def bR70 : zR := zup bR69 25 6 (some 35)
def bR71 : zR := zup bR70 25 7 (some 11)
def bR72 : zR := zfil bR71 36 none
def bR73 : zR := zup bR72 36 0 (some 1)
def bR74 : zR := zup bR73 25 0 (some 36)
def bR75 : zR := zfil bR74 37 none
def bR76 : zR := zfil bR75 38 none
def bR77 : zR := zup bR76 37 0 (some 38)
def bR78 : zR := zfil bR77 39 none
def bR79 : zR := zup bR78 37 1 (some 39)
def bR80 : zR := zup bR79 34 0 (some 37)
def bR81 : zR := zfil bR80 40 none
def bR82 : zR := zfil bR81 41 none
def bR83 : zR := zup bR82 40 0 (some 41)
def bR84 : zR := zfil bR83 42 none
def bR85 : zR := zup bR84 40 1 (some 42)
def bR86 : zR := zup bR85 34 1 (some 40)
def bR87 : zR := zfil bR86 43 none
def bR88 : zR := zfil bR87 44 none
def bR89 : zR := zup bR88 43 0 (some 44)
def bR90 : zR := zfil bR89 45 none
def bR91 : zR := zup bR90 43 1 (some 45)
def bR92 : zR := zup bR91 34 2 (some 43)
def bR93 : zR := zfil bR92 46 none
def bR94 : zR := zfil bR93 47 none
def bR95 : zR := zup bR94 46 0 (some 47)
def bR96 : zR := zfil bR95 48 none
def bR97 : zR := zup bR96 46 1 (some 48)
def bR98 : zR := zup bR97 34 3 (some 46)
def bR99 : zR := zfil bR98 49 none
def bR100 : zR := zfil bR99 50 none
def bR101 : zR := zup bR100 49 0 (some 50)
def bR102 : zR := zfil bR101 51 none
def bR103 : zR := zup bR102 49 1 (some 51)
def bR104 : zR := zup bR103 34 4 (some 49)
def bR105 : zR := zup bR104 0 2 (some 25)
def bR106 : zR := zfil bR105 52 none
def bR107 : zR := zfil bR106 53 none
def bR108 : zR := zup bR107 52 0 (some 53)
def bR109 : zR := zfil bR108 54 none
def bR110 : zR := zup bR109 52 1 (some 54)
def bR111 : zR := zfil bR110 55 none
def bR112 : zR := zup bR111 52 2 (some 55)
def bR113 : zR := zfil bR112 56 none
def bR114 : zR := zup bR113 52 4 (some 56)
def bR115 : zR := zfil bR114 57 none
def bR116 : zR := zup bR115 52 20 (some 57)
def bR117 : zR := zfil bR116 58 none
def bR118 : zR := zup bR117 52 21 (some 58)
def bR119 : zR := zfil bR118 59 none
def bR120 : zR := zup bR119 52 22 (some 59)
def bR121 : zR := zfil bR120 60 none
def bR122 : zR := zup bR121 52 23 (some 60)
def bR123 : zR := zfil bR122 61 none
def bR124 : zR := zup bR123 52 24 (some 61)
def bR125 : zR := zfil bR124 62 none
def bR126 : zR := zup bR125 52 25 (some 62)
def bR127 : zR := zfil bR126 63 none
def bR128 : zR := zup bR127 52 30 (some 63)
def bR129 : zR := zfil bR128 64 none
def bR130 : zR := zup bR129 52 31 (some 64)
def bR131 : zR := zfil bR130 65 none
def bR132 : zR := zup bR131 52 32 (some 65)
def bR133 : zR := zfil bR132 66 none
def bR134 : zR := zup bR133 52 38 (some 66)
def bR135 : zR := zfil bR134 67 none
def bR136 : zR := zup bR135 52 39 (some 67)
theorem b_call {y : Nat} {M : zMeth} {as : List Value} {h : zH} {r : zRes} (hM : zZ y = M) (hr : zgo zZ M [] 400 (zent M as h) = some r) : zcall zZ y as h = some (r.1, r.2.1) := by
  unfold zcall
  rw [hM, zrun_go zZ [] 400, hr]
  rfl
theorem b_ent {y : Nat} {M : zMeth} {as : List Value} {h : zH} {x : Option zRes} (hM : zZ y = M) (hr : zgo zZ M [] 400 (zent M as h) = x) : zcall zZ y as h = x.map (fun r => (r.1, r.2.1)) := by
  unfold zcall
  rw [hM, zrun_go zZ [] 400, hr]
theorem b_ent2 {y : Nat} {M : zMeth} {as : List Value} {h : zH} {x : Option zRes} (stops : List Nat) (hM : zZ y = M) (hr : zgo zZ M stops 400 (zent M as h) = x) : zcall zZ y as h = x.map (fun r => (r.1, r.2.1)) := by
  unfold zcall
  rw [hM, zrun_go zZ stops 400, hr]
set_option maxRecDepth 100000 in
theorem b_X9_0 (I : zI) (L : zL) : zcall zZ nX9_init [.ref 0] (zSH.take 1, I, L, bR1) = (((zcall zZ nX3_init [.ref 1] (zSH.take 2, (zfil I 1 0), (zfil L 1 0), bR2)).bind (fun q => zrun zZ kX9_init (11, [some (.ref 0), none], q.1.toList ++ [.ref 1], q.2, 2, 20)))).map (fun r => (r.1, r.2.1)) := b_ent (M := kX9_init) rfl rfl
set_option maxRecDepth 100000 in
theorem b_X3_0 (I : zI) (L : zL) : zcall zZ nX3_init [.ref 1] (zSH.take 2, I, L, bR2) = (zrun zZ kX3_init (16, [some (.ref 1), some (.int 0), some (.int 0), none], [], (zSH.take 3, zfil I 2 0, zfil L 2 0, bR4), 1, 19)).map (fun r => (r.1, r.2.1)) := b_ent2 (M := kX3_init) [16] rfl rfl
set_option maxRecDepth 100000 in
theorem b_X3_16 (I : zI) (L : zL) (x1 x2 : Int32) : zrun zZ kX3_init (16, [some (.ref 1), some (.int x1), some (.int x2), none], [], (zSH.take 3, I, L, bR4), 1, 19) = cond (!decide (x2 < nI 80)) (some (none, (zSH.take 3, I, L, bR4), 1, 19)) (cond (!decide (x1 < (19 : Int32))) (some (none, (zSH.take 3, I, L, bR4), 1, 19)) (cond (zin x2 80 && true && true) (cond (!decide (zch 0 x2 = (32 : Int32))) (cond (zin x1 19) (cond (zin x1 19) (zrun zZ kX3_init (16, [some (.ref 1), some (.int x1), some (.int (x2 + 1)), none], [], (zSH.take 3, I, zup L 2 x1.toNatClampNeg ((L 2 x1.toNatClampNeg <<< ((8 : Int32).toInt64 &&& 63)) ||| (zch 0 x2).toInt64), bR4), 1, 19)) none) none) (zrun zZ kX3_init (16, [some (.ref 1), some (.int (x1 + 1)), some (.int (x2 + 1)), none], [], (zSH.take 3, I, L, bR4), 1, 19))) none)) := (zrun_go zZ [16] 400 _ _).trans rfl
set_option maxRecDepth 100000 in
theorem b_X6 (I : zI) (L : zL) : zcall zZ nX6_init [.ref 3] (zSH.take 4, I, L, bR5) = some (none, (zSH.take 5, (zup (zfil I 4 0) 3 1 (0 : Int32)), (zfil L 4 0), bR7)) := b_call (M := kX6_init) (r := (none, (zSH.take 5, (zup (zfil I 4 0) 3 1 (0 : Int32)), (zfil L 4 0), bR7), 1, 600)) rfl rfl
set_option maxRecDepth 100000 in
theorem b_X9_init_11 (I : zI) (L : zL) : zrun zZ kX9_init (11, [some (.ref 0), none], [.ref 1], (zSH.take 3, I, L, bR4), 2, 20) = ((zcall zZ nX6_init [.ref 3] (zSH.take 4, (zfil I 3 0), (zfil L 3 0), bR5)).bind (fun q => zrun zZ kX9_init (20, [some (.ref 0), some (.ref 1)], q.1.toList ++ [.ref 3, .ref 0], q.2, 4, 622))) := (zrun_go zZ [] 400 _ _).trans rfl
set_option maxRecDepth 100000 in
theorem b_X4 (I : zI) (L : zL) : zcall zZ nX4_init [.ref 5, .ref 1] (zSH.take 6, I, L, bR9) = some (none, (zSH.take 9, (zup (zup (zup (zup (zup (zup (zup (zfil (zfil (zfil (zup (zup (zup (zup I 5 0 (0 : Int32)) 5 1 (-1 : Int32)) 5 2 (0 : Int32)) 5 3 (0 : Int32)) 6 0) 7 0) 8 0) 5 8 (0 : Int32)) 5 9 (0 : Int32)) 5 10 (0 : Int32)) 5 11 (0 : Int32)) 5 12 (0 : Int32)) 5 13 (0 : Int32)) 5 14 (0 : Int32)), (zfil (zfil (zfil L 6 0) 7 0) 8 0), bR16)) := b_call (M := kX4_init) (r := (none, (zSH.take 9, (zup (zup (zup (zup (zup (zup (zup (zfil (zfil (zfil (zup (zup (zup (zup I 5 0 (0 : Int32)) 5 1 (-1 : Int32)) 5 2 (0 : Int32)) 5 3 (0 : Int32)) 6 0) 7 0) 8 0) 5 8 (0 : Int32)) 5 9 (0 : Int32)) 5 10 (0 : Int32)) 5 11 (0 : Int32)) 5 12 (0 : Int32)) 5 13 (0 : Int32)) 5 14 (0 : Int32)), (zfil (zfil (zfil L 6 0) 7 0) 8 0), bR16), 3, 1803)) rfl rfl
set_option maxRecDepth 100000 in
theorem b_X9_init_20 (I : zI) (L : zL) : zrun zZ kX9_init (20, [some (.ref 0), some (.ref 1)], [.ref 3, .ref 0], (zSH.take 5, I, L, bR7), 4, 622) = ((zcall zZ nX4_init [.ref 5, .ref 1] (zSH.take 6, (zfil I 5 0), (zfil L 5 0), bR9)).bind (fun q => zrun zZ kX9_init (32, [some (.ref 0), some (.ref 1)], q.1.toList ++ [.ref 5, .ref 0], q.2, 8, 2440))) := (zrun_go zZ [] 400 _ _).trans rfl
set_option maxRecDepth 100000 in
theorem b_X0 (I : zI) (L : zL) : zcall zZ nX0_init [.ref 9] (zSH.take 10, I, L, bR18) = some (none, (zSH.take 11, (zup (zfil I 10 0) 9 1 (0 : Int32)), (zfil L 10 0), bR20)) := b_call (M := kX0_init) (r := (none, (zSH.take 11, (zup (zfil I 10 0) 9 1 (0 : Int32)), (zfil L 10 0), bR20), 1, 120)) rfl rfl
set_option maxRecDepth 100000 in
theorem b_X9_init_32 (I : zI) (L : zL) : zrun zZ kX9_init (32, [some (.ref 0), some (.ref 1)], [.ref 5, .ref 0], (zSH.take 9, I, L, bR16), 8, 2440) = ((zcall zZ nX0_init [.ref 9] (zSH.take 10, (zfil I 9 0), (zfil L 9 0), bR18)).bind (fun q => zrun zZ kX9_init (43, [some (.ref 0), some (.ref 1)], q.1.toList ++ [.ref 9, .ref 0], q.2, 10, 2562))) := (zrun_go zZ [] 400 _ _).trans rfl
set_option maxRecDepth 100000 in
theorem b_X1a (I : zI) (L : zL) : zcall zZ nX1_init [.ref 11] (zSH.take 12, I, L, bR22) = some (none, (zSH.take 18, (zup (zup (zup (zup (zup (zfil (zfil (zfil (zfil (zfil (zfil I 12 0) 13 0) 14 0) 15 0) 16 0) 17 0) 11 6 (0 : Int32)) 11 7 (0 : Int32)) 11 8 (0 : Int32)) 11 9 (0 : Int32)) 11 10 (0 : Int32)), (zfil (zfil (zfil (zfil (zfil (zfil L 12 0) 13 0) 14 0) 15 0) 16 0) 17 0), bR34)) := b_call (M := kX1_init) (r := (none, (zSH.take 18, (zup (zup (zup (zup (zup (zfil (zfil (zfil (zfil (zfil (zfil I 12 0) 13 0) 14 0) 15 0) 16 0) 17 0) 11 6 (0 : Int32)) 11 7 (0 : Int32)) 11 8 (0 : Int32)) 11 9 (0 : Int32)) 11 10 (0 : Int32)), (zfil (zfil (zfil (zfil (zfil (zfil L 12 0) 13 0) 14 0) 15 0) 16 0) 17 0), bR34), 6, 150)) rfl rfl
set_option maxRecDepth 100000 in
theorem b_X9_init_43 (I : zI) (L : zL) : zrun zZ kX9_init (43, [some (.ref 0), some (.ref 1)], [.ref 9, .ref 0], (zSH.take 11, I, L, bR20), 10, 2562) = ((zcall zZ nX1_init [.ref 11] (zSH.take 12, (zfil I 11 0), (zfil L 11 0), bR22)).bind (fun q => zrun zZ kX9_init (54, [some (.ref 0), some (.ref 1)], q.1.toList ++ [.ref 11, .ref 0], q.2, 17, 2723))) := (zrun_go zZ [] 400 _ _).trans rfl
set_option maxRecDepth 100000 in
theorem b_X1b (I : zI) (L : zL) : zcall zZ nX1_init [.ref 18] (zSH.take 19, I, L, bR36) = some (none, (zSH.take 25, (zup (zup (zup (zup (zup (zfil (zfil (zfil (zfil (zfil (zfil I 19 0) 20 0) 21 0) 22 0) 23 0) 24 0) 18 6 (0 : Int32)) 18 7 (0 : Int32)) 18 8 (0 : Int32)) 18 9 (0 : Int32)) 18 10 (0 : Int32)), (zfil (zfil (zfil (zfil (zfil (zfil L 19 0) 20 0) 21 0) 22 0) 23 0) 24 0), bR48)) := b_call (M := kX1_init) (r := (none, (zSH.take 25, (zup (zup (zup (zup (zup (zfil (zfil (zfil (zfil (zfil (zfil I 19 0) 20 0) 21 0) 22 0) 23 0) 24 0) 18 6 (0 : Int32)) 18 7 (0 : Int32)) 18 8 (0 : Int32)) 18 9 (0 : Int32)) 18 10 (0 : Int32)), (zfil (zfil (zfil (zfil (zfil (zfil L 19 0) 20 0) 21 0) 22 0) 23 0) 24 0), bR48), 6, 150)) rfl rfl
set_option maxRecDepth 100000 in
theorem b_X9_init_54 (I : zI) (L : zL) : zrun zZ kX9_init (54, [some (.ref 0), some (.ref 1)], [.ref 11, .ref 0], (zSH.take 18, I, L, bR34), 17, 2723) = ((zcall zZ nX1_init [.ref 18] (zSH.take 19, (zfil I 18 0), (zfil L 18 0), bR36)).bind (fun q => zrun zZ kX9_init (65, [some (.ref 0), some (.ref 1)], q.1.toList ++ [.ref 18, .ref 0], q.2, 24, 2884))) := (zrun_go zZ [] 400 _ _).trans rfl
set_option maxRecDepth 100000 in
theorem b_X9_init_65 (I : zI) (L : zL) : zrun zZ kX9_init (65, [some (.ref 0), some (.ref 1)], [.ref 18, .ref 0], (zSH.take 25, I, L, bR48), 24, 2884) = ((zcall zZ nX2_init [.ref 25, .ref 1, .ref 11] (zSH.take 26, (zfil I 25 0), (zfil L 25 0), bR50)).bind (fun q => zrun zZ kX9_init (81, [some (.ref 0), none], q.1.toList ++ [.ref 25, .ref 0], q.2, 51, 4744))) := (zrun_go zZ [] 400 _ _).trans rfl
set_option maxRecDepth 100000 in
theorem b_X7 (I : zI) (L : zL) : zcall zZ nX7_init [.ref 26] (zSH.take 27, I, L, bR51) = some (none, (zSH.take 31, (zup (zup (zup (zup (zup (zup (zup (zup (zup (zfil (zfil (zfil (zfil I 27 0) 28 0) 29 0) 30 0) 26 4 (0 : Int32)) 26 5 (0 : Int32)) 26 6 (0 : Int32)) 26 8 (0 : Int32)) 26 9 (0 : Int32)) 26 10 (0 : Int32)) 26 11 (0 : Int32)) 26 12 (0 : Int32)) 26 13 (0 : Int32)), (zup (zfil (zfil (zfil (zfil L 27 0) 28 0) 29 0) 30 0) 26 7 (0 : Int64)), bR59)) := b_call (M := kX7_init) (r := (none, (zSH.take 31, (zup (zup (zup (zup (zup (zup (zup (zup (zup (zfil (zfil (zfil (zfil I 27 0) 28 0) 29 0) 30 0) 26 4 (0 : Int32)) 26 5 (0 : Int32)) 26 6 (0 : Int32)) 26 8 (0 : Int32)) 26 9 (0 : Int32)) 26 10 (0 : Int32)) 26 11 (0 : Int32)) 26 12 (0 : Int32)) 26 13 (0 : Int32)), (zup (zfil (zfil (zfil (zfil L 27 0) 28 0) 29 0) 30 0) 26 7 (0 : Int64)), bR59), 4, 384)) rfl rfl
set_option maxRecDepth 100000 in
theorem b_X2_0 (I : zI) (L : zL) : zcall zZ nX2_init [.ref 25, .ref 1, .ref 11] (zSH.take 26, I, L, bR50) = (((zcall zZ nX7_init [.ref 26] (zSH.take 27, (zfil I 26 0), (zfil L 26 0), bR51)).bind (fun q => zrun zZ kX2_init (12, [some (.ref 25), some (.ref 1), some (.ref 11), none, none, none], q.1.toList ++ [.ref 26, .ref 25], q.2, 5, 398)))).map (fun r => (r.1, r.2.1)) := b_ent (M := kX2_init) rfl rfl
set_option maxRecDepth 100000 in
theorem b_X8 (I : zI) (L : zL) : zcall zZ nX8_init [.ref 36, .ref 1] (zSH.take 37, I, L, bR72) = some (none, (zSH.take 37, I, L, bR73)) := b_call (M := kX8_init) (r := (none, (zSH.take 37, I, L, bR73), 0, 0)) rfl rfl
set_option maxRecDepth 100000 in
theorem b_X2_init_12 (I : zI) (L : zL) : zrun zZ kX2_init (12, [some (.ref 25), some (.ref 1), some (.ref 11), none, none, none], [.ref 26, .ref 25], (zSH.take 31, I, L, bR59), 5, 398) = ((zcall zZ nX8_init [.ref 36, .ref 1] (zSH.take 37, (zfil (zup (zup (zup (zup (zup (zup (zup (zfil (zfil (zfil (zfil (zfil I 31 0) 32 0) 33 0) 34 0) 35 0) 25 8 (0 : Int32)) 25 9 (0 : Int32)) 25 10 (0 : Int32)) 25 11 (0 : Int32)) 25 12 (0 : Int32)) 25 14 (0 : Int32)) 25 15 (0 : Int32)) 36 0), (zfil (zup (zfil (zfil (zfil (zfil (zfil L 31 0) 32 0) 33 0) 34 0) 35 0) 25 13 (0 : Int64)) 36 0), bR72)).bind (fun q => zrun zZ kX2_init (111, [some (.ref 25), none, none, none, none, none], q.1.toList ++ [.ref 36, .ref 25], q.2, 11, 674))) := (zrun_go zZ [] 400 _ _).trans rfl
set_option maxRecDepth 100000 in
theorem b_X2_init_111 (I : zI) (L : zL) : zrun zZ kX2_init (111, [some (.ref 25), none, none, none, none, none], [.ref 36, .ref 25], (zSH.take 37, I, L, bR73), 11, 674) = zrun zZ kX2_init (116, [some (.ref 25), none, none, some (.int (0 : Int32)), none, none], [], (zSH.take 37, I, L, bR74), 11, 674) := (zrun_go zZ [116] 400 _ _).trans rfl
set_option maxRecDepth 100000 in
theorem b_X5_0 (I : zI) (L : zL) : zcall zZ nX5_init [.ref 37] (zSH.take 38, I, L, bR75) = some (none, (zSH.take 40, (zfil (zfil I 38 0) 39 0), (zfil (zfil L 38 0) 39 0), bR79)) := b_call (M := kX5_init) (r := (none, (zSH.take 40, (zfil (zfil I 38 0) 39 0), (zfil (zfil L 38 0) 39 0), bR79), 2, 232)) rfl rfl
set_option maxRecDepth 100000 in
theorem b_X2_init_116_0 (I : zI) (L : zL) : zrun zZ kX2_init (116, [some (.ref 25), none, none, some (.int (0 : Int32)), none, none], [], (zSH.take 37, I, L, bR74), 11, 674) = ((zcall zZ nX5_init [.ref 37] (zSH.take 38, (zfil I 37 0), (zfil L 37 0), bR75)).bind (fun q => zrun zZ kX2_init (137, [some (.ref 25), none, none, some (.int (0 : Int32)), none, none], q.1.toList ++ [.ref 37, .int 0, .ref 34], q.2, 14, 908))) := (zrun_go zZ [] 400 _ _).trans rfl
set_option maxRecDepth 100000 in
theorem b_X2_init_137_0 (I : zI) (L : zL) : zrun zZ kX2_init (137, [some (.ref 25), none, none, some (.int (0 : Int32)), none, none], [.ref 37, .int (0 : Int32), .ref 34], (zSH.take 40, I, L, bR79), 14, 908) = zrun zZ kX2_init (116, [some (.ref 25), none, none, some (.int (1 : Int32)), none, none], [], (zSH.take 40, I, L, bR80), 14, 908) := (zrun_go zZ [116] 400 _ _).trans rfl
set_option maxRecDepth 100000 in
theorem b_X5_1 (I : zI) (L : zL) : zcall zZ nX5_init [.ref 40] (zSH.take 41, I, L, bR81) = some (none, (zSH.take 43, (zfil (zfil I 41 0) 42 0), (zfil (zfil L 41 0) 42 0), bR85)) := b_call (M := kX5_init) (r := (none, (zSH.take 43, (zfil (zfil I 41 0) 42 0), (zfil (zfil L 41 0) 42 0), bR85), 2, 232)) rfl rfl
set_option maxRecDepth 100000 in
theorem b_X2_init_116_1 (I : zI) (L : zL) : zrun zZ kX2_init (116, [some (.ref 25), none, none, some (.int (1 : Int32)), none, none], [], (zSH.take 40, I, L, bR80), 14, 908) = ((zcall zZ nX5_init [.ref 40] (zSH.take 41, (zfil I 40 0), (zfil L 40 0), bR81)).bind (fun q => zrun zZ kX2_init (137, [some (.ref 25), none, none, some (.int (1 : Int32)), none, none], q.1.toList ++ [.ref 40, .int 1, .ref 34], q.2, 17, 1142))) := (zrun_go zZ [] 400 _ _).trans rfl
set_option maxRecDepth 100000 in
theorem b_X2_init_137_1 (I : zI) (L : zL) : zrun zZ kX2_init (137, [some (.ref 25), none, none, some (.int (1 : Int32)), none, none], [.ref 40, .int (1 : Int32), .ref 34], (zSH.take 43, I, L, bR85), 17, 1142) = zrun zZ kX2_init (116, [some (.ref 25), none, none, some (.int (2 : Int32)), none, none], [], (zSH.take 43, I, L, bR86), 17, 1142) := (zrun_go zZ [116] 400 _ _).trans rfl
set_option maxRecDepth 100000 in
theorem b_X5_2 (I : zI) (L : zL) : zcall zZ nX5_init [.ref 43] (zSH.take 44, I, L, bR87) = some (none, (zSH.take 46, (zfil (zfil I 44 0) 45 0), (zfil (zfil L 44 0) 45 0), bR91)) := b_call (M := kX5_init) (r := (none, (zSH.take 46, (zfil (zfil I 44 0) 45 0), (zfil (zfil L 44 0) 45 0), bR91), 2, 232)) rfl rfl
set_option maxRecDepth 100000 in
theorem b_X2_init_116_2 (I : zI) (L : zL) : zrun zZ kX2_init (116, [some (.ref 25), none, none, some (.int (2 : Int32)), none, none], [], (zSH.take 43, I, L, bR86), 17, 1142) = ((zcall zZ nX5_init [.ref 43] (zSH.take 44, (zfil I 43 0), (zfil L 43 0), bR87)).bind (fun q => zrun zZ kX2_init (137, [some (.ref 25), none, none, some (.int (2 : Int32)), none, none], q.1.toList ++ [.ref 43, .int 2, .ref 34], q.2, 20, 1376))) := (zrun_go zZ [] 400 _ _).trans rfl
set_option maxRecDepth 100000 in
theorem b_X2_init_137_2 (I : zI) (L : zL) : zrun zZ kX2_init (137, [some (.ref 25), none, none, some (.int (2 : Int32)), none, none], [.ref 43, .int (2 : Int32), .ref 34], (zSH.take 46, I, L, bR91), 20, 1376) = zrun zZ kX2_init (116, [some (.ref 25), none, none, some (.int (3 : Int32)), none, none], [], (zSH.take 46, I, L, bR92), 20, 1376) := (zrun_go zZ [116] 400 _ _).trans rfl
set_option maxRecDepth 100000 in
theorem b_X5_3 (I : zI) (L : zL) : zcall zZ nX5_init [.ref 46] (zSH.take 47, I, L, bR93) = some (none, (zSH.take 49, (zfil (zfil I 47 0) 48 0), (zfil (zfil L 47 0) 48 0), bR97)) := b_call (M := kX5_init) (r := (none, (zSH.take 49, (zfil (zfil I 47 0) 48 0), (zfil (zfil L 47 0) 48 0), bR97), 2, 232)) rfl rfl
set_option maxRecDepth 100000 in
theorem b_X2_init_116_3 (I : zI) (L : zL) : zrun zZ kX2_init (116, [some (.ref 25), none, none, some (.int (3 : Int32)), none, none], [], (zSH.take 46, I, L, bR92), 20, 1376) = ((zcall zZ nX5_init [.ref 46] (zSH.take 47, (zfil I 46 0), (zfil L 46 0), bR93)).bind (fun q => zrun zZ kX2_init (137, [some (.ref 25), none, none, some (.int (3 : Int32)), none, none], q.1.toList ++ [.ref 46, .int 3, .ref 34], q.2, 23, 1610))) := (zrun_go zZ [] 400 _ _).trans rfl
set_option maxRecDepth 100000 in
theorem b_X2_init_137_3 (I : zI) (L : zL) : zrun zZ kX2_init (137, [some (.ref 25), none, none, some (.int (3 : Int32)), none, none], [.ref 46, .int (3 : Int32), .ref 34], (zSH.take 49, I, L, bR97), 23, 1610) = zrun zZ kX2_init (116, [some (.ref 25), none, none, some (.int (4 : Int32)), none, none], [], (zSH.take 49, I, L, bR98), 23, 1610) := (zrun_go zZ [116] 400 _ _).trans rfl
set_option maxRecDepth 100000 in
theorem b_X5_4 (I : zI) (L : zL) : zcall zZ nX5_init [.ref 49] (zSH.take 50, I, L, bR99) = some (none, (zSH.take 52, (zfil (zfil I 50 0) 51 0), (zfil (zfil L 50 0) 51 0), bR103)) := b_call (M := kX5_init) (r := (none, (zSH.take 52, (zfil (zfil I 50 0) 51 0), (zfil (zfil L 50 0) 51 0), bR103), 2, 232)) rfl rfl
set_option maxRecDepth 100000 in
theorem b_X2_init_116_4 (I : zI) (L : zL) : zrun zZ kX2_init (116, [some (.ref 25), none, none, some (.int (4 : Int32)), none, none], [], (zSH.take 49, I, L, bR98), 23, 1610) = ((zcall zZ nX5_init [.ref 49] (zSH.take 50, (zfil I 49 0), (zfil L 49 0), bR99)).bind (fun q => zrun zZ kX2_init (137, [some (.ref 25), none, none, some (.int (4 : Int32)), none, none], q.1.toList ++ [.ref 49, .int 4, .ref 34], q.2, 26, 1844))) := (zrun_go zZ [] 400 _ _).trans rfl
set_option maxRecDepth 100000 in
theorem b_X2_init_137_4 (I : zI) (L : zL) : zrun zZ kX2_init (137, [some (.ref 25), none, none, some (.int (4 : Int32)), none, none], [.ref 49, .int (4 : Int32), .ref 34], (zSH.take 52, I, L, bR103), 26, 1844) = zrun zZ kX2_init (116, [some (.ref 25), none, none, some (.int (5 : Int32)), none, none], [], (zSH.take 52, I, L, bR104), 26, 1844) := (zrun_go zZ [116] 400 _ _).trans rfl
set_option maxRecDepth 100000 in
theorem b_X2_init_116_5 (I : zI) (L : zL) : zrun zZ kX2_init (116, [some (.ref 25), none, none, some (.int (5 : Int32)), none, none], [], (zSH.take 52, I, L, bR104), 26, 1844) = zrun zZ kX2_init (149, [some (.ref 25), none, none, some (.int (0 : Int32)), some (.int (1 : Int32)), none], [], (zSH.take 52, I, L, bR104), 26, 1844) := (zrun_go zZ [149] 400 _ _).trans rfl
set_option maxRecDepth 100000 in
theorem b_X2_init_149 (I : zI) (L : zL) (x3 x4 : Int32) : zrun zZ kX2_init (149, [some (.ref 25), none, none, some (.int x3), some (.int x4), none], [], (zSH.take 52, I, L, bR104), 26, 1844) = cond (!decide (x4 < (128 : Int32))) (zrun zZ kX2_init (178, [some (.ref 25), none, none, some (.int x3), some (.int (1 : Int32)), none], [], (zSH.take 52, I, L, bR104), 26, 1844)) ((zcall zZ nX2_tokensOf [.int x4] (zSH.take 52, I, L, bR104)).bind (fun q => zrun zZ kX2_init (168, [some (.ref 25), none, none, some (.int x3), some (.int x4), none], q.1.toList ++ [.int x4, .ref 31], q.2, 26, 1844))) := (zrun_go zZ [178] 400 _ _).trans rfl
set_option maxRecDepth 100000 in
theorem b_X2_init_168 (I : zI) (L : zL) (x3 x4 v : Int32) : zrun zZ kX2_init (168, [some (.ref 25), none, none, some (.int x3), some (.int x4), none], [.int v, .int x4, .ref 31], (zSH.take 52, I, L, bR104), 26, 1844) = cond (zin x4 128) (zrun zZ kX2_init (149, [some (.ref 25), none, none, some (.int x3), some (.int (x4 + 1)), none], [], (zSH.take 52, (zup I 31 x4.toNatClampNeg v), L, bR104), 26, 1844)) none := (zrun_go zZ [149] 400 _ _).trans rfl
set_option maxRecDepth 100000 in
theorem b_X2_init_178 (I : zI) (L : zL) (x3 x4 : Int32) : zrun zZ kX2_init (178, [some (.ref 25), none, none, some (.int x3), some (.int x4), none], [], (zSH.take 52, I, L, bR104), 26, 1844) = cond (decide ((6 : Int32) < x4)) (some (none, (zSH.take 52, I, L, bR104), 26, 1844)) (zrun zZ kX2_init (188, [some (.ref 25), none, none, some (.int x3), some (.int x4), some (.int (1 : Int32))], [], (zSH.take 52, I, L, bR104), 26, 1844)) := (zrun_go zZ [188] 400 _ _).trans rfl
set_option maxRecDepth 100000 in
theorem b_X2_init_188 (I : zI) (L : zL) (x3 x4 x5 : Int32) : zrun zZ kX2_init (188, [some (.ref 25), none, none, some (.int x3), some (.int x4), some (.int x5)], [], (zSH.take 52, I, L, bR104), 26, 1844) = cond (!decide (x5 < (128 : Int32))) (cond (zin x4 7) (zrun zZ kX2_init (178, [some (.ref 25), none, none, some (.int x3), some (.int (x4 + 1)), none], [], (zSH.take 52, (zup I 33 x4.toNatClampNeg x3), L, bR104), 26, 1844)) none) (cond (zin x5 128) (cond (!decide (I 31 x5.toNatClampNeg = x4)) (zrun zZ kX2_init (188, [some (.ref 25), none, none, some (.int x3), some (.int x4), some (.int (x5 + 1))], [], (zSH.take 52, I, L, bR104), 26, 1844)) (cond (zin x3 128) (zrun zZ kX2_init (188, [some (.ref 25), none, none, some (.int (x3 + 1)), some (.int x4), some (.int (x5 + 1))], [], (zSH.take 52, (zup I 32 x3.toNatClampNeg x5), L, bR104), 26, 1844)) none)) none) := (zrun_go zZ [178, 188] 400 _ _).trans rfl
set_option maxRecDepth 100000 in
theorem b_X9_init_81 (I : zI) (L : zL) : zrun zZ kX9_init (81, [some (.ref 0), none], [.ref 25, .ref 0], (zSH.take 52, I, L, bR104), 51, 4744) = some (none, (zSH.take 52, (zup (zup (zup (zup (zup (zup (zup I 0 6 (0 : Int32)) 0 7 (-1 : Int32)) 0 8 (0 : Int32)) 0 9 (-1 : Int32)) 0 10 (-1 : Int32)) 0 11 (0 : Int32)) 0 12 (-1 : Int32)), L, bR105), 51, 4744) := (zrun_go zZ [] 400 _ _).trans rfl
set_option maxRecDepth 100000 in
theorem b_X10_0 (I : zI) (L : zL) : zcall zZ nX10_init [.ref 52] (zSH.take 53, I, L, bR106) = (zrun zZ kX10_init (50, [some (.ref 52)], [], (zSH.take 58, (zfil (zup (zfil (zfil (zfil (zfil I 53 0) 54 0) 55 0) 56 0) 52 7 (-1 : Int32)) 57 0), (zfil (zfil (zfil (zfil (zfil L 53 0) 54 0) 55 0) 56 0) 57 0), bR116), 5, 924)).map (fun r => (r.1, r.2.1)) := b_ent2 (M := kX10_init) [50] rfl rfl
set_option maxRecDepth 100000 in
theorem b_X10_50 (I : zI) (L : zL) : zrun zZ kX10_init (50, [some (.ref 52)], [], (zSH.take 58, I, L, bR116), 5, 924) = zrun zZ kX10_init (76, [some (.ref 52)], [], (zSH.take 61, (zfil (zfil (zfil I 58 0) 59 0) 60 0), (zfil (zfil (zfil L 58 0) 59 0) 60 0), bR122), 8, 1313) := (zrun_go zZ [50, 76, 101] 400 _ _).trans rfl
set_option maxRecDepth 100000 in
theorem b_X10_76 (I : zI) (L : zL) : zrun zZ kX10_init (76, [some (.ref 52)], [], (zSH.take 61, I, L, bR122), 8, 1313) = zrun zZ kX10_init (101, [some (.ref 52)], [], (zSH.take 64, (zfil (zfil (zfil I 61 0) 62 0) 63 0), (zfil (zfil (zfil L 61 0) 62 0) 63 0), bR128), 11, 1476) := (zrun_go zZ [50, 76, 101] 400 _ _).trans rfl
set_option maxRecDepth 100000 in
theorem b_X10_101 (I : zI) (L : zL) : zrun zZ kX10_init (101, [some (.ref 52)], [], (zSH.take 64, I, L, bR128), 11, 1476) = some (none, (zSH.take 68, (zfil (zfil (zfil (zfil I 64 0) 65 0) 66 0) 67 0), (zfil (zfil (zfil (zfil L 64 0) 65 0) 66 0) 67 0), bR136), 15, 1540) := (zrun_go zZ [50, 76, 101] 400 _ _).trans rfl
set_option maxRecDepth 100000 in
theorem b_X10 (I : zI) (L : zL) : zcall zZ nX10_init [.ref 52] (zSH.take 53, I, L, bR106) = some (none, (zSH.take 68, (zfil (zfil (zfil (zfil (zfil (zfil (zfil (zfil (zfil (zfil (zfil (zup (zfil (zfil (zfil (zfil I 53 0) 54 0) 55 0) 56 0) 52 7 (-1 : Int32)) 57 0) 58 0) 59 0) 60 0) 61 0) 62 0) 63 0) 64 0) 65 0) 66 0) 67 0), (zfil (zfil (zfil (zfil (zfil (zfil (zfil (zfil (zfil (zfil (zfil (zfil (zfil (zfil (zfil L 53 0) 54 0) 55 0) 56 0) 57 0) 58 0) 59 0) 60 0) 61 0) 62 0) 63 0) 64 0) 65 0) 66 0) 67 0), bR136)) := by
  rw [b_X10_0, b_X10_50, b_X10_76, b_X10_101]
  rfl
