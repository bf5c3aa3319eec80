theorem a0_wide (a b : Int64) : a < b ∨ a = b ∨ b < a := Jvm.Stand.i64_tri a b
