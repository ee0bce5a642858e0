theorem wd_pos (f : Jvm.FP.Core.Fmt) : 0 < f.tails := Jvm.FP.Core.tails_pos f
