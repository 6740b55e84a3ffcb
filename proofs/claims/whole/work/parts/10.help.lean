theorem zcall_ent {y : Nat} {M : zMeth} {as : List Value} {h : zH} {S : zS} (hy : zZ y = M) (he : zent M as h = S) : zcall zZ y as h = (zrun zZ M (zclear M S)).map (fun r => (r.1, r.2.1)) := by
  subst hy; subst he
  exact zcall_run zZ _ as h
def zushr (x y : Int32) : Int32 := (x.toUInt32 >>> (y.toUInt32 &&& Int32.toUInt32 31)).toInt32
