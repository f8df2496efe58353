section FACE2
theorem dd_try {x y : Int32} (h : y ≠ 0) : vf_n64 (FP.ddiv (FP.i2d x) (FP.i2d y)) := Jvm.Free.Fl.ddiv_out (Jvm.Free.Fl.i2d_fin x).noNaN (Jvm.Free.Fl.i2d_fin y) (Jvm.Free.Fl.i2d_nz h)
theorem dd_eq {x : UInt64} (h : vf_n64 x) : Op.cmpValue (FP.dcmp x x) CmpOp.l = 0 := Jvm.Free.Fl.dcmp_of_noNaN64 h
end FACE2
