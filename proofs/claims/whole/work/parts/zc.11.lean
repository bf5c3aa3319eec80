/-! methods as functions (printed by a program): 366 bitCount, 83 pick, 81 mostWitnesses, 82 pickedWitness, 87 isDominated -/
theorem mm_366 : mtG 366 = some (mi_366, 15, ft_366) := rfl
def F_366 (v0 : Int64) : Int32 := (Int64.toInt32 ((((((((v0 - ((((Int64.toUInt64 v0) >>> ((Int64.toUInt64 (Int32.toInt64 1)) &&& Int64.toUInt64 63)).toInt64) &&& 6148914691236517205)) &&& 3689348814741910323) + ((((Int64.toUInt64 (v0 - ((((Int64.toUInt64 v0) >>> ((Int64.toUInt64 (Int32.toInt64 1)) &&& Int64.toUInt64 63)).toInt64) &&& 6148914691236517205))) >>> ((Int64.toUInt64 (Int32.toInt64 2)) &&& Int64.toUInt64 63)).toInt64) &&& 3689348814741910323)) + (((Int64.toUInt64 (((v0 - ((((Int64.toUInt64 v0) >>> ((Int64.toUInt64 (Int32.toInt64 1)) &&& Int64.toUInt64 63)).toInt64) &&& 6148914691236517205)) &&& 3689348814741910323) + ((((Int64.toUInt64 (v0 - ((((Int64.toUInt64 v0) >>> ((Int64.toUInt64 (Int32.toInt64 1)) &&& Int64.toUInt64 63)).toInt64) &&& 6148914691236517205))) >>> ((Int64.toUInt64 (Int32.toInt64 2)) &&& Int64.toUInt64 63)).toInt64) &&& 3689348814741910323))) >>> ((Int64.toUInt64 (Int32.toInt64 4)) &&& Int64.toUInt64 63)).toInt64)) &&& 1085102592571150095) + (((Int64.toUInt64 (((((v0 - ((((Int64.toUInt64 v0) >>> ((Int64.toUInt64 (Int32.toInt64 1)) &&& Int64.toUInt64 63)).toInt64) &&& 6148914691236517205)) &&& 3689348814741910323) + ((((Int64.toUInt64 (v0 - ((((Int64.toUInt64 v0) >>> ((Int64.toUInt64 (Int32.toInt64 1)) &&& Int64.toUInt64 63)).toInt64) &&& 6148914691236517205))) >>> ((Int64.toUInt64 (Int32.toInt64 2)) &&& Int64.toUInt64 63)).toInt64) &&& 3689348814741910323)) + (((Int64.toUInt64 (((v0 - ((((Int64.toUInt64 v0) >>> ((Int64.toUInt64 (Int32.toInt64 1)) &&& Int64.toUInt64 63)).toInt64) &&& 6148914691236517205)) &&& 3689348814741910323) + ((((Int64.toUInt64 (v0 - ((((Int64.toUInt64 v0) >>> ((Int64.toUInt64 (Int32.toInt64 1)) &&& Int64.toUInt64 63)).toInt64) &&& 6148914691236517205))) >>> ((Int64.toUInt64 (Int32.toInt64 2)) &&& Int64.toUInt64 63)).toInt64) &&& 3689348814741910323))) >>> ((Int64.toUInt64 (Int32.toInt64 4)) &&& Int64.toUInt64 63)).toInt64)) &&& 1085102592571150095)) >>> ((Int64.toUInt64 (Int32.toInt64 8)) &&& Int64.toUInt64 63)).toInt64)) + (((Int64.toUInt64 ((((((v0 - ((((Int64.toUInt64 v0) >>> ((Int64.toUInt64 (Int32.toInt64 1)) &&& Int64.toUInt64 63)).toInt64) &&& 6148914691236517205)) &&& 3689348814741910323) + ((((Int64.toUInt64 (v0 - ((((Int64.toUInt64 v0) >>> ((Int64.toUInt64 (Int32.toInt64 1)) &&& Int64.toUInt64 63)).toInt64) &&& 6148914691236517205))) >>> ((Int64.toUInt64 (Int32.toInt64 2)) &&& Int64.toUInt64 63)).toInt64) &&& 3689348814741910323)) + (((Int64.toUInt64 (((v0 - ((((Int64.toUInt64 v0) >>> ((Int64.toUInt64 (Int32.toInt64 1)) &&& Int64.toUInt64 63)).toInt64) &&& 6148914691236517205)) &&& 3689348814741910323) + ((((Int64.toUInt64 (v0 - ((((Int64.toUInt64 v0) >>> ((Int64.toUInt64 (Int32.toInt64 1)) &&& Int64.toUInt64 63)).toInt64) &&& 6148914691236517205))) >>> ((Int64.toUInt64 (Int32.toInt64 2)) &&& Int64.toUInt64 63)).toInt64) &&& 3689348814741910323))) >>> ((Int64.toUInt64 (Int32.toInt64 4)) &&& Int64.toUInt64 63)).toInt64)) &&& 1085102592571150095) + (((Int64.toUInt64 (((((v0 - ((((Int64.toUInt64 v0) >>> ((Int64.toUInt64 (Int32.toInt64 1)) &&& Int64.toUInt64 63)).toInt64) &&& 6148914691236517205)) &&& 3689348814741910323) + ((((Int64.toUInt64 (v0 - ((((Int64.toUInt64 v0) >>> ((Int64.toUInt64 (Int32.toInt64 1)) &&& Int64.toUInt64 63)).toInt64) &&& 6148914691236517205))) >>> ((Int64.toUInt64 (Int32.toInt64 2)) &&& Int64.toUInt64 63)).toInt64) &&& 3689348814741910323)) + (((Int64.toUInt64 (((v0 - ((((Int64.toUInt64 v0) >>> ((Int64.toUInt64 (Int32.toInt64 1)) &&& Int64.toUInt64 63)).toInt64) &&& 6148914691236517205)) &&& 3689348814741910323) + ((((Int64.toUInt64 (v0 - ((((Int64.toUInt64 v0) >>> ((Int64.toUInt64 (Int32.toInt64 1)) &&& Int64.toUInt64 63)).toInt64) &&& 6148914691236517205))) >>> ((Int64.toUInt64 (Int32.toInt64 2)) &&& Int64.toUInt64 63)).toInt64) &&& 3689348814741910323))) >>> ((Int64.toUInt64 (Int32.toInt64 4)) &&& Int64.toUInt64 63)).toInt64)) &&& 1085102592571150095)) >>> ((Int64.toUInt64 (Int32.toInt64 8)) &&& Int64.toUInt64 63)).toInt64))) >>> ((Int64.toUInt64 (Int32.toInt64 16)) &&& Int64.toUInt64 63)).toInt64)) + (((Int64.toUInt64 (((((((v0 - ((((Int64.toUInt64 v0) >>> ((Int64.toUInt64 (Int32.toInt64 1)) &&& Int64.toUInt64 63)).toInt64) &&& 6148914691236517205)) &&& 3689348814741910323) + ((((Int64.toUInt64 (v0 - ((((Int64.toUInt64 v0) >>> ((Int64.toUInt64 (Int32.toInt64 1)) &&& Int64.toUInt64 63)).toInt64) &&& 6148914691236517205))) >>> ((Int64.toUInt64 (Int32.toInt64 2)) &&& Int64.toUInt64 63)).toInt64) &&& 3689348814741910323)) + (((Int64.toUInt64 (((v0 - ((((Int64.toUInt64 v0) >>> ((Int64.toUInt64 (Int32.toInt64 1)) &&& Int64.toUInt64 63)).toInt64) &&& 6148914691236517205)) &&& 3689348814741910323) + ((((Int64.toUInt64 (v0 - ((((Int64.toUInt64 v0) >>> ((Int64.toUInt64 (Int32.toInt64 1)) &&& Int64.toUInt64 63)).toInt64) &&& 6148914691236517205))) >>> ((Int64.toUInt64 (Int32.toInt64 2)) &&& Int64.toUInt64 63)).toInt64) &&& 3689348814741910323))) >>> ((Int64.toUInt64 (Int32.toInt64 4)) &&& Int64.toUInt64 63)).toInt64)) &&& 1085102592571150095) + (((Int64.toUInt64 (((((v0 - ((((Int64.toUInt64 v0) >>> ((Int64.toUInt64 (Int32.toInt64 1)) &&& Int64.toUInt64 63)).toInt64) &&& 6148914691236517205)) &&& 3689348814741910323) + ((((Int64.toUInt64 (v0 - ((((Int64.toUInt64 v0) >>> ((Int64.toUInt64 (Int32.toInt64 1)) &&& Int64.toUInt64 63)).toInt64) &&& 6148914691236517205))) >>> ((Int64.toUInt64 (Int32.toInt64 2)) &&& Int64.toUInt64 63)).toInt64) &&& 3689348814741910323)) + (((Int64.toUInt64 (((v0 - ((((Int64.toUInt64 v0) >>> ((Int64.toUInt64 (Int32.toInt64 1)) &&& Int64.toUInt64 63)).toInt64) &&& 6148914691236517205)) &&& 3689348814741910323) + ((((Int64.toUInt64 (v0 - ((((Int64.toUInt64 v0) >>> ((Int64.toUInt64 (Int32.toInt64 1)) &&& Int64.toUInt64 63)).toInt64) &&& 6148914691236517205))) >>> ((Int64.toUInt64 (Int32.toInt64 2)) &&& Int64.toUInt64 63)).toInt64) &&& 3689348814741910323))) >>> ((Int64.toUInt64 (Int32.toInt64 4)) &&& Int64.toUInt64 63)).toInt64)) &&& 1085102592571150095)) >>> ((Int64.toUInt64 (Int32.toInt64 8)) &&& Int64.toUInt64 63)).toInt64)) + (((Int64.toUInt64 ((((((v0 - ((((Int64.toUInt64 v0) >>> ((Int64.toUInt64 (Int32.toInt64 1)) &&& Int64.toUInt64 63)).toInt64) &&& 6148914691236517205)) &&& 3689348814741910323) + ((((Int64.toUInt64 (v0 - ((((Int64.toUInt64 v0) >>> ((Int64.toUInt64 (Int32.toInt64 1)) &&& Int64.toUInt64 63)).toInt64) &&& 6148914691236517205))) >>> ((Int64.toUInt64 (Int32.toInt64 2)) &&& Int64.toUInt64 63)).toInt64) &&& 3689348814741910323)) + (((Int64.toUInt64 (((v0 - ((((Int64.toUInt64 v0) >>> ((Int64.toUInt64 (Int32.toInt64 1)) &&& Int64.toUInt64 63)).toInt64) &&& 6148914691236517205)) &&& 3689348814741910323) + ((((Int64.toUInt64 (v0 - ((((Int64.toUInt64 v0) >>> ((Int64.toUInt64 (Int32.toInt64 1)) &&& Int64.toUInt64 63)).toInt64) &&& 6148914691236517205))) >>> ((Int64.toUInt64 (Int32.toInt64 2)) &&& Int64.toUInt64 63)).toInt64) &&& 3689348814741910323))) >>> ((Int64.toUInt64 (Int32.toInt64 4)) &&& Int64.toUInt64 63)).toInt64)) &&& 1085102592571150095) + (((Int64.toUInt64 (((((v0 - ((((Int64.toUInt64 v0) >>> ((Int64.toUInt64 (Int32.toInt64 1)) &&& Int64.toUInt64 63)).toInt64) &&& 6148914691236517205)) &&& 3689348814741910323) + ((((Int64.toUInt64 (v0 - ((((Int64.toUInt64 v0) >>> ((Int64.toUInt64 (Int32.toInt64 1)) &&& Int64.toUInt64 63)).toInt64) &&& 6148914691236517205))) >>> ((Int64.toUInt64 (Int32.toInt64 2)) &&& Int64.toUInt64 63)).toInt64) &&& 3689348814741910323)) + (((Int64.toUInt64 (((v0 - ((((Int64.toUInt64 v0) >>> ((Int64.toUInt64 (Int32.toInt64 1)) &&& Int64.toUInt64 63)).toInt64) &&& 6148914691236517205)) &&& 3689348814741910323) + ((((Int64.toUInt64 (v0 - ((((Int64.toUInt64 v0) >>> ((Int64.toUInt64 (Int32.toInt64 1)) &&& Int64.toUInt64 63)).toInt64) &&& 6148914691236517205))) >>> ((Int64.toUInt64 (Int32.toInt64 2)) &&& Int64.toUInt64 63)).toInt64) &&& 3689348814741910323))) >>> ((Int64.toUInt64 (Int32.toInt64 4)) &&& Int64.toUInt64 63)).toInt64)) &&& 1085102592571150095)) >>> ((Int64.toUInt64 (Int32.toInt64 8)) &&& Int64.toUInt64 63)).toInt64))) >>> ((Int64.toUInt64 (Int32.toInt64 16)) &&& Int64.toUInt64 63)).toInt64))) >>> ((Int64.toUInt64 (Int32.toInt64 32)) &&& Int64.toUInt64 63)).toInt64))) &&& 127
set_option maxRecDepth 20000 in
theorem S_366 {d : Nat} {S : ST} {v0 : Int64} {r} (hr : F_366 v0 = r) : Cal XC d 366 [.long v0] S (RV (vI r) S) := by
  unfold F_366 at hr
  refine cal_go 0 rfl ?_
  refine go_run mm_366 48 (pc' := 60) (ls' := [some (.long ((((((((v0 - ((((Int64.toUInt64 v0) >>> ((Int64.toUInt64 (Int32.toInt64 1)) &&& Int64.toUInt64 63)).toInt64) &&& 6148914691236517205)) &&& 3689348814741910323) + ((((Int64.toUInt64 (v0 - ((((Int64.toUInt64 v0) >>> ((Int64.toUInt64 (Int32.toInt64 1)) &&& Int64.toUInt64 63)).toInt64) &&& 6148914691236517205))) >>> ((Int64.toUInt64 (Int32.toInt64 2)) &&& Int64.toUInt64 63)).toInt64) &&& 3689348814741910323)) + (((Int64.toUInt64 (((v0 - ((((Int64.toUInt64 v0) >>> ((Int64.toUInt64 (Int32.toInt64 1)) &&& Int64.toUInt64 63)).toInt64) &&& 6148914691236517205)) &&& 3689348814741910323) + ((((Int64.toUInt64 (v0 - ((((Int64.toUInt64 v0) >>> ((Int64.toUInt64 (Int32.toInt64 1)) &&& Int64.toUInt64 63)).toInt64) &&& 6148914691236517205))) >>> ((Int64.toUInt64 (Int32.toInt64 2)) &&& Int64.toUInt64 63)).toInt64) &&& 3689348814741910323))) >>> ((Int64.toUInt64 (Int32.toInt64 4)) &&& Int64.toUInt64 63)).toInt64)) &&& 1085102592571150095) + (((Int64.toUInt64 (((((v0 - ((((Int64.toUInt64 v0) >>> ((Int64.toUInt64 (Int32.toInt64 1)) &&& Int64.toUInt64 63)).toInt64) &&& 6148914691236517205)) &&& 3689348814741910323) + ((((Int64.toUInt64 (v0 - ((((Int64.toUInt64 v0) >>> ((Int64.toUInt64 (Int32.toInt64 1)) &&& Int64.toUInt64 63)).toInt64) &&& 6148914691236517205))) >>> ((Int64.toUInt64 (Int32.toInt64 2)) &&& Int64.toUInt64 63)).toInt64) &&& 3689348814741910323)) + (((Int64.toUInt64 (((v0 - ((((Int64.toUInt64 v0) >>> ((Int64.toUInt64 (Int32.toInt64 1)) &&& Int64.toUInt64 63)).toInt64) &&& 6148914691236517205)) &&& 3689348814741910323) + ((((Int64.toUInt64 (v0 - ((((Int64.toUInt64 v0) >>> ((Int64.toUInt64 (Int32.toInt64 1)) &&& Int64.toUInt64 63)).toInt64) &&& 6148914691236517205))) >>> ((Int64.toUInt64 (Int32.toInt64 2)) &&& Int64.toUInt64 63)).toInt64) &&& 3689348814741910323))) >>> ((Int64.toUInt64 (Int32.toInt64 4)) &&& Int64.toUInt64 63)).toInt64)) &&& 1085102592571150095)) >>> ((Int64.toUInt64 (Int32.toInt64 8)) &&& Int64.toUInt64 63)).toInt64)) + (((Int64.toUInt64 ((((((v0 - ((((Int64.toUInt64 v0) >>> ((Int64.toUInt64 (Int32.toInt64 1)) &&& Int64.toUInt64 63)).toInt64) &&& 6148914691236517205)) &&& 3689348814741910323) + ((((Int64.toUInt64 (v0 - ((((Int64.toUInt64 v0) >>> ((Int64.toUInt64 (Int32.toInt64 1)) &&& Int64.toUInt64 63)).toInt64) &&& 6148914691236517205))) >>> ((Int64.toUInt64 (Int32.toInt64 2)) &&& Int64.toUInt64 63)).toInt64) &&& 3689348814741910323)) + (((Int64.toUInt64 (((v0 - ((((Int64.toUInt64 v0) >>> ((Int64.toUInt64 (Int32.toInt64 1)) &&& Int64.toUInt64 63)).toInt64) &&& 6148914691236517205)) &&& 3689348814741910323) + ((((Int64.toUInt64 (v0 - ((((Int64.toUInt64 v0) >>> ((Int64.toUInt64 (Int32.toInt64 1)) &&& Int64.toUInt64 63)).toInt64) &&& 6148914691236517205))) >>> ((Int64.toUInt64 (Int32.toInt64 2)) &&& Int64.toUInt64 63)).toInt64) &&& 3689348814741910323))) >>> ((Int64.toUInt64 (Int32.toInt64 4)) &&& Int64.toUInt64 63)).toInt64)) &&& 1085102592571150095) + (((Int64.toUInt64 (((((v0 - ((((Int64.toUInt64 v0) >>> ((Int64.toUInt64 (Int32.toInt64 1)) &&& Int64.toUInt64 63)).toInt64) &&& 6148914691236517205)) &&& 3689348814741910323) + ((((Int64.toUInt64 (v0 - ((((Int64.toUInt64 v0) >>> ((Int64.toUInt64 (Int32.toInt64 1)) &&& Int64.toUInt64 63)).toInt64) &&& 6148914691236517205))) >>> ((Int64.toUInt64 (Int32.toInt64 2)) &&& Int64.toUInt64 63)).toInt64) &&& 3689348814741910323)) + (((Int64.toUInt64 (((v0 - ((((Int64.toUInt64 v0) >>> ((Int64.toUInt64 (Int32.toInt64 1)) &&& Int64.toUInt64 63)).toInt64) &&& 6148914691236517205)) &&& 3689348814741910323) + ((((Int64.toUInt64 (v0 - ((((Int64.toUInt64 v0) >>> ((Int64.toUInt64 (Int32.toInt64 1)) &&& Int64.toUInt64 63)).toInt64) &&& 6148914691236517205))) >>> ((Int64.toUInt64 (Int32.toInt64 2)) &&& Int64.toUInt64 63)).toInt64) &&& 3689348814741910323))) >>> ((Int64.toUInt64 (Int32.toInt64 4)) &&& Int64.toUInt64 63)).toInt64)) &&& 1085102592571150095)) >>> ((Int64.toUInt64 (Int32.toInt64 8)) &&& Int64.toUInt64 63)).toInt64))) >>> ((Int64.toUInt64 (Int32.toInt64 16)) &&& Int64.toUInt64 63)).toInt64)) + (((Int64.toUInt64 (((((((v0 - ((((Int64.toUInt64 v0) >>> ((Int64.toUInt64 (Int32.toInt64 1)) &&& Int64.toUInt64 63)).toInt64) &&& 6148914691236517205)) &&& 3689348814741910323) + ((((Int64.toUInt64 (v0 - ((((Int64.toUInt64 v0) >>> ((Int64.toUInt64 (Int32.toInt64 1)) &&& Int64.toUInt64 63)).toInt64) &&& 6148914691236517205))) >>> ((Int64.toUInt64 (Int32.toInt64 2)) &&& Int64.toUInt64 63)).toInt64) &&& 3689348814741910323)) + (((Int64.toUInt64 (((v0 - ((((Int64.toUInt64 v0) >>> ((Int64.toUInt64 (Int32.toInt64 1)) &&& Int64.toUInt64 63)).toInt64) &&& 6148914691236517205)) &&& 3689348814741910323) + ((((Int64.toUInt64 (v0 - ((((Int64.toUInt64 v0) >>> ((Int64.toUInt64 (Int32.toInt64 1)) &&& Int64.toUInt64 63)).toInt64) &&& 6148914691236517205))) >>> ((Int64.toUInt64 (Int32.toInt64 2)) &&& Int64.toUInt64 63)).toInt64) &&& 3689348814741910323))) >>> ((Int64.toUInt64 (Int32.toInt64 4)) &&& Int64.toUInt64 63)).toInt64)) &&& 1085102592571150095) + (((Int64.toUInt64 (((((v0 - ((((Int64.toUInt64 v0) >>> ((Int64.toUInt64 (Int32.toInt64 1)) &&& Int64.toUInt64 63)).toInt64) &&& 6148914691236517205)) &&& 3689348814741910323) + ((((Int64.toUInt64 (v0 - ((((Int64.toUInt64 v0) >>> ((Int64.toUInt64 (Int32.toInt64 1)) &&& Int64.toUInt64 63)).toInt64) &&& 6148914691236517205))) >>> ((Int64.toUInt64 (Int32.toInt64 2)) &&& Int64.toUInt64 63)).toInt64) &&& 3689348814741910323)) + (((Int64.toUInt64 (((v0 - ((((Int64.toUInt64 v0) >>> ((Int64.toUInt64 (Int32.toInt64 1)) &&& Int64.toUInt64 63)).toInt64) &&& 6148914691236517205)) &&& 3689348814741910323) + ((((Int64.toUInt64 (v0 - ((((Int64.toUInt64 v0) >>> ((Int64.toUInt64 (Int32.toInt64 1)) &&& Int64.toUInt64 63)).toInt64) &&& 6148914691236517205))) >>> ((Int64.toUInt64 (Int32.toInt64 2)) &&& Int64.toUInt64 63)).toInt64) &&& 3689348814741910323))) >>> ((Int64.toUInt64 (Int32.toInt64 4)) &&& Int64.toUInt64 63)).toInt64)) &&& 1085102592571150095)) >>> ((Int64.toUInt64 (Int32.toInt64 8)) &&& Int64.toUInt64 63)).toInt64)) + (((Int64.toUInt64 ((((((v0 - ((((Int64.toUInt64 v0) >>> ((Int64.toUInt64 (Int32.toInt64 1)) &&& Int64.toUInt64 63)).toInt64) &&& 6148914691236517205)) &&& 3689348814741910323) + ((((Int64.toUInt64 (v0 - ((((Int64.toUInt64 v0) >>> ((Int64.toUInt64 (Int32.toInt64 1)) &&& Int64.toUInt64 63)).toInt64) &&& 6148914691236517205))) >>> ((Int64.toUInt64 (Int32.toInt64 2)) &&& Int64.toUInt64 63)).toInt64) &&& 3689348814741910323)) + (((Int64.toUInt64 (((v0 - ((((Int64.toUInt64 v0) >>> ((Int64.toUInt64 (Int32.toInt64 1)) &&& Int64.toUInt64 63)).toInt64) &&& 6148914691236517205)) &&& 3689348814741910323) + ((((Int64.toUInt64 (v0 - ((((Int64.toUInt64 v0) >>> ((Int64.toUInt64 (Int32.toInt64 1)) &&& Int64.toUInt64 63)).toInt64) &&& 6148914691236517205))) >>> ((Int64.toUInt64 (Int32.toInt64 2)) &&& Int64.toUInt64 63)).toInt64) &&& 3689348814741910323))) >>> ((Int64.toUInt64 (Int32.toInt64 4)) &&& Int64.toUInt64 63)).toInt64)) &&& 1085102592571150095) + (((Int64.toUInt64 (((((v0 - ((((Int64.toUInt64 v0) >>> ((Int64.toUInt64 (Int32.toInt64 1)) &&& Int64.toUInt64 63)).toInt64) &&& 6148914691236517205)) &&& 3689348814741910323) + ((((Int64.toUInt64 (v0 - ((((Int64.toUInt64 v0) >>> ((Int64.toUInt64 (Int32.toInt64 1)) &&& Int64.toUInt64 63)).toInt64) &&& 6148914691236517205))) >>> ((Int64.toUInt64 (Int32.toInt64 2)) &&& Int64.toUInt64 63)).toInt64) &&& 3689348814741910323)) + (((Int64.toUInt64 (((v0 - ((((Int64.toUInt64 v0) >>> ((Int64.toUInt64 (Int32.toInt64 1)) &&& Int64.toUInt64 63)).toInt64) &&& 6148914691236517205)) &&& 3689348814741910323) + ((((Int64.toUInt64 (v0 - ((((Int64.toUInt64 v0) >>> ((Int64.toUInt64 (Int32.toInt64 1)) &&& Int64.toUInt64 63)).toInt64) &&& 6148914691236517205))) >>> ((Int64.toUInt64 (Int32.toInt64 2)) &&& Int64.toUInt64 63)).toInt64) &&& 3689348814741910323))) >>> ((Int64.toUInt64 (Int32.toInt64 4)) &&& Int64.toUInt64 63)).toInt64)) &&& 1085102592571150095)) >>> ((Int64.toUInt64 (Int32.toInt64 8)) &&& Int64.toUInt64 63)).toInt64))) >>> ((Int64.toUInt64 (Int32.toInt64 16)) &&& Int64.toUInt64 63)).toInt64))) >>> ((Int64.toUInt64 (Int32.toInt64 32)) &&& Int64.toUInt64 63)).toInt64))), none]) (st' := [.int ((Int64.toInt32 ((((((((v0 - ((((Int64.toUInt64 v0) >>> ((Int64.toUInt64 (Int32.toInt64 1)) &&& Int64.toUInt64 63)).toInt64) &&& 6148914691236517205)) &&& 3689348814741910323) + ((((Int64.toUInt64 (v0 - ((((Int64.toUInt64 v0) >>> ((Int64.toUInt64 (Int32.toInt64 1)) &&& Int64.toUInt64 63)).toInt64) &&& 6148914691236517205))) >>> ((Int64.toUInt64 (Int32.toInt64 2)) &&& Int64.toUInt64 63)).toInt64) &&& 3689348814741910323)) + (((Int64.toUInt64 (((v0 - ((((Int64.toUInt64 v0) >>> ((Int64.toUInt64 (Int32.toInt64 1)) &&& Int64.toUInt64 63)).toInt64) &&& 6148914691236517205)) &&& 3689348814741910323) + ((((Int64.toUInt64 (v0 - ((((Int64.toUInt64 v0) >>> ((Int64.toUInt64 (Int32.toInt64 1)) &&& Int64.toUInt64 63)).toInt64) &&& 6148914691236517205))) >>> ((Int64.toUInt64 (Int32.toInt64 2)) &&& Int64.toUInt64 63)).toInt64) &&& 3689348814741910323))) >>> ((Int64.toUInt64 (Int32.toInt64 4)) &&& Int64.toUInt64 63)).toInt64)) &&& 1085102592571150095) + (((Int64.toUInt64 (((((v0 - ((((Int64.toUInt64 v0) >>> ((Int64.toUInt64 (Int32.toInt64 1)) &&& Int64.toUInt64 63)).toInt64) &&& 6148914691236517205)) &&& 3689348814741910323) + ((((Int64.toUInt64 (v0 - ((((Int64.toUInt64 v0) >>> ((Int64.toUInt64 (Int32.toInt64 1)) &&& Int64.toUInt64 63)).toInt64) &&& 6148914691236517205))) >>> ((Int64.toUInt64 (Int32.toInt64 2)) &&& Int64.toUInt64 63)).toInt64) &&& 3689348814741910323)) + (((Int64.toUInt64 (((v0 - ((((Int64.toUInt64 v0) >>> ((Int64.toUInt64 (Int32.toInt64 1)) &&& Int64.toUInt64 63)).toInt64) &&& 6148914691236517205)) &&& 3689348814741910323) + ((((Int64.toUInt64 (v0 - ((((Int64.toUInt64 v0) >>> ((Int64.toUInt64 (Int32.toInt64 1)) &&& Int64.toUInt64 63)).toInt64) &&& 6148914691236517205))) >>> ((Int64.toUInt64 (Int32.toInt64 2)) &&& Int64.toUInt64 63)).toInt64) &&& 3689348814741910323))) >>> ((Int64.toUInt64 (Int32.toInt64 4)) &&& Int64.toUInt64 63)).toInt64)) &&& 1085102592571150095)) >>> ((Int64.toUInt64 (Int32.toInt64 8)) &&& Int64.toUInt64 63)).toInt64)) + (((Int64.toUInt64 ((((((v0 - ((((Int64.toUInt64 v0) >>> ((Int64.toUInt64 (Int32.toInt64 1)) &&& Int64.toUInt64 63)).toInt64) &&& 6148914691236517205)) &&& 3689348814741910323) + ((((Int64.toUInt64 (v0 - ((((Int64.toUInt64 v0) >>> ((Int64.toUInt64 (Int32.toInt64 1)) &&& Int64.toUInt64 63)).toInt64) &&& 6148914691236517205))) >>> ((Int64.toUInt64 (Int32.toInt64 2)) &&& Int64.toUInt64 63)).toInt64) &&& 3689348814741910323)) + (((Int64.toUInt64 (((v0 - ((((Int64.toUInt64 v0) >>> ((Int64.toUInt64 (Int32.toInt64 1)) &&& Int64.toUInt64 63)).toInt64) &&& 6148914691236517205)) &&& 3689348814741910323) + ((((Int64.toUInt64 (v0 - ((((Int64.toUInt64 v0) >>> ((Int64.toUInt64 (Int32.toInt64 1)) &&& Int64.toUInt64 63)).toInt64) &&& 6148914691236517205))) >>> ((Int64.toUInt64 (Int32.toInt64 2)) &&& Int64.toUInt64 63)).toInt64) &&& 3689348814741910323))) >>> ((Int64.toUInt64 (Int32.toInt64 4)) &&& Int64.toUInt64 63)).toInt64)) &&& 1085102592571150095) + (((Int64.toUInt64 (((((v0 - ((((Int64.toUInt64 v0) >>> ((Int64.toUInt64 (Int32.toInt64 1)) &&& Int64.toUInt64 63)).toInt64) &&& 6148914691236517205)) &&& 3689348814741910323) + ((((Int64.toUInt64 (v0 - ((((Int64.toUInt64 v0) >>> ((Int64.toUInt64 (Int32.toInt64 1)) &&& Int64.toUInt64 63)).toInt64) &&& 6148914691236517205))) >>> ((Int64.toUInt64 (Int32.toInt64 2)) &&& Int64.toUInt64 63)).toInt64) &&& 3689348814741910323)) + (((Int64.toUInt64 (((v0 - ((((Int64.toUInt64 v0) >>> ((Int64.toUInt64 (Int32.toInt64 1)) &&& Int64.toUInt64 63)).toInt64) &&& 6148914691236517205)) &&& 3689348814741910323) + ((((Int64.toUInt64 (v0 - ((((Int64.toUInt64 v0) >>> ((Int64.toUInt64 (Int32.toInt64 1)) &&& Int64.toUInt64 63)).toInt64) &&& 6148914691236517205))) >>> ((Int64.toUInt64 (Int32.toInt64 2)) &&& Int64.toUInt64 63)).toInt64) &&& 3689348814741910323))) >>> ((Int64.toUInt64 (Int32.toInt64 4)) &&& Int64.toUInt64 63)).toInt64)) &&& 1085102592571150095)) >>> ((Int64.toUInt64 (Int32.toInt64 8)) &&& Int64.toUInt64 63)).toInt64))) >>> ((Int64.toUInt64 (Int32.toInt64 16)) &&& Int64.toUInt64 63)).toInt64)) + (((Int64.toUInt64 (((((((v0 - ((((Int64.toUInt64 v0) >>> ((Int64.toUInt64 (Int32.toInt64 1)) &&& Int64.toUInt64 63)).toInt64) &&& 6148914691236517205)) &&& 3689348814741910323) + ((((Int64.toUInt64 (v0 - ((((Int64.toUInt64 v0) >>> ((Int64.toUInt64 (Int32.toInt64 1)) &&& Int64.toUInt64 63)).toInt64) &&& 6148914691236517205))) >>> ((Int64.toUInt64 (Int32.toInt64 2)) &&& Int64.toUInt64 63)).toInt64) &&& 3689348814741910323)) + (((Int64.toUInt64 (((v0 - ((((Int64.toUInt64 v0) >>> ((Int64.toUInt64 (Int32.toInt64 1)) &&& Int64.toUInt64 63)).toInt64) &&& 6148914691236517205)) &&& 3689348814741910323) + ((((Int64.toUInt64 (v0 - ((((Int64.toUInt64 v0) >>> ((Int64.toUInt64 (Int32.toInt64 1)) &&& Int64.toUInt64 63)).toInt64) &&& 6148914691236517205))) >>> ((Int64.toUInt64 (Int32.toInt64 2)) &&& Int64.toUInt64 63)).toInt64) &&& 3689348814741910323))) >>> ((Int64.toUInt64 (Int32.toInt64 4)) &&& Int64.toUInt64 63)).toInt64)) &&& 1085102592571150095) + (((Int64.toUInt64 (((((v0 - ((((Int64.toUInt64 v0) >>> ((Int64.toUInt64 (Int32.toInt64 1)) &&& Int64.toUInt64 63)).toInt64) &&& 6148914691236517205)) &&& 3689348814741910323) + ((((Int64.toUInt64 (v0 - ((((Int64.toUInt64 v0) >>> ((Int64.toUInt64 (Int32.toInt64 1)) &&& Int64.toUInt64 63)).toInt64) &&& 6148914691236517205))) >>> ((Int64.toUInt64 (Int32.toInt64 2)) &&& Int64.toUInt64 63)).toInt64) &&& 3689348814741910323)) + (((Int64.toUInt64 (((v0 - ((((Int64.toUInt64 v0) >>> ((Int64.toUInt64 (Int32.toInt64 1)) &&& Int64.toUInt64 63)).toInt64) &&& 6148914691236517205)) &&& 3689348814741910323) + ((((Int64.toUInt64 (v0 - ((((Int64.toUInt64 v0) >>> ((Int64.toUInt64 (Int32.toInt64 1)) &&& Int64.toUInt64 63)).toInt64) &&& 6148914691236517205))) >>> ((Int64.toUInt64 (Int32.toInt64 2)) &&& Int64.toUInt64 63)).toInt64) &&& 3689348814741910323))) >>> ((Int64.toUInt64 (Int32.toInt64 4)) &&& Int64.toUInt64 63)).toInt64)) &&& 1085102592571150095)) >>> ((Int64.toUInt64 (Int32.toInt64 8)) &&& Int64.toUInt64 63)).toInt64)) + (((Int64.toUInt64 ((((((v0 - ((((Int64.toUInt64 v0) >>> ((Int64.toUInt64 (Int32.toInt64 1)) &&& Int64.toUInt64 63)).toInt64) &&& 6148914691236517205)) &&& 3689348814741910323) + ((((Int64.toUInt64 (v0 - ((((Int64.toUInt64 v0) >>> ((Int64.toUInt64 (Int32.toInt64 1)) &&& Int64.toUInt64 63)).toInt64) &&& 6148914691236517205))) >>> ((Int64.toUInt64 (Int32.toInt64 2)) &&& Int64.toUInt64 63)).toInt64) &&& 3689348814741910323)) + (((Int64.toUInt64 (((v0 - ((((Int64.toUInt64 v0) >>> ((Int64.toUInt64 (Int32.toInt64 1)) &&& Int64.toUInt64 63)).toInt64) &&& 6148914691236517205)) &&& 3689348814741910323) + ((((Int64.toUInt64 (v0 - ((((Int64.toUInt64 v0) >>> ((Int64.toUInt64 (Int32.toInt64 1)) &&& Int64.toUInt64 63)).toInt64) &&& 6148914691236517205))) >>> ((Int64.toUInt64 (Int32.toInt64 2)) &&& Int64.toUInt64 63)).toInt64) &&& 3689348814741910323))) >>> ((Int64.toUInt64 (Int32.toInt64 4)) &&& Int64.toUInt64 63)).toInt64)) &&& 1085102592571150095) + (((Int64.toUInt64 (((((v0 - ((((Int64.toUInt64 v0) >>> ((Int64.toUInt64 (Int32.toInt64 1)) &&& Int64.toUInt64 63)).toInt64) &&& 6148914691236517205)) &&& 3689348814741910323) + ((((Int64.toUInt64 (v0 - ((((Int64.toUInt64 v0) >>> ((Int64.toUInt64 (Int32.toInt64 1)) &&& Int64.toUInt64 63)).toInt64) &&& 6148914691236517205))) >>> ((Int64.toUInt64 (Int32.toInt64 2)) &&& Int64.toUInt64 63)).toInt64) &&& 3689348814741910323)) + (((Int64.toUInt64 (((v0 - ((((Int64.toUInt64 v0) >>> ((Int64.toUInt64 (Int32.toInt64 1)) &&& Int64.toUInt64 63)).toInt64) &&& 6148914691236517205)) &&& 3689348814741910323) + ((((Int64.toUInt64 (v0 - ((((Int64.toUInt64 v0) >>> ((Int64.toUInt64 (Int32.toInt64 1)) &&& Int64.toUInt64 63)).toInt64) &&& 6148914691236517205))) >>> ((Int64.toUInt64 (Int32.toInt64 2)) &&& Int64.toUInt64 63)).toInt64) &&& 3689348814741910323))) >>> ((Int64.toUInt64 (Int32.toInt64 4)) &&& Int64.toUInt64 63)).toInt64)) &&& 1085102592571150095)) >>> ((Int64.toUInt64 (Int32.toInt64 8)) &&& Int64.toUInt64 63)).toInt64))) >>> ((Int64.toUInt64 (Int32.toInt64 16)) &&& Int64.toUInt64 63)).toInt64))) >>> ((Int64.toUInt64 (Int32.toInt64 32)) &&& Int64.toUInt64 63)).toInt64))) &&& 127)]) (S' := S) rfl ?_
  cases hr
  exact go_ireturn mm_366 rfl rfl ⟨rfl, rfl, rfl⟩

theorem mm_83 : mtG 83 = some (mi_83, 8, ft_83) := rfl
def L_83_20 (rec : Int64 → Int32 → Int32 → ST → Option (Bool × ST)) (v1 : Int64) (v3 : Int32) (v4 : Int32) (a20 : Int64 × Int32 × ST) : Option ((Int64 × Int32 × ST) ⊕ ((Int64 × Int32 × ST) ⊕ (Bool × ST))) := if a20.2.1 < 64 then (if (F_177 a20.1 a20.2.1) = true then (if (F_366 a20.1) < (v3 - v4) then (some (.inr (.inr (false, a20.2.2)))) else (ck (ibd v4 4) (sbn ((wI a20.2.2 45 (Int32.toNatClampNeg v4) a20.2.1)) (fun s7 => if (v4 + 1) = v3 then (some (.inr (.inr (true, s7)))) else (ck (ibd a20.2.1 64) (ob (rec ((a20.1 &&& ((1 <<< (Int32.toInt64 a20.2.1 &&& 63)) ^^^ (-1))) &&& ((s7.2 44 (Int32.toNatClampNeg a20.2.1)) ^^^ (-1))) v3 (v4 + 1) s7) (fun w1 => if w1.1 = true then (some (.inr (.inr (true, w1.2)))) else (some (.inl (a20.1 &&& ((1 <<< (Int32.toInt64 a20.2.1 &&& 63)) ^^^ (-1)), a20.2.1 + 1, w1.2)))))))))) else (some (.inl (a20.1, a20.2.1 + 1, a20.2.2)))) else (some (.inr (.inl (a20.1, a20.2.1, a20.2.2))))
set_option maxRecDepth 20000 in
theorem LS_83_20 {d : Nat} {R : RT} {rec : Int64 → Int32 → Int32 → ST → Option (Bool × ST)} {v1 : Int64} {v3 : Int32} {v4 : Int32} {a20 : Int64 × Int32 × ST} {r9} (hrec : ∀ {v1 : Int64} {v3 : Int32} {v4 : Int32} {S : ST} {r}, rec v1 v3 v4 S = some r → Cal XC d 83 [.ref 43, .long v1, .int v3, .int v4] S (RV (vZ r.1) r.2)) (hr : L_83_20 rec v1 v3 v4 a20 = some r9) (hL : ∀ a9, r9 = .inl a9 → (fun a20 => Go XC (d + 1) 83 0 20 [some (.ref 43), some (.long v1), none, some (.int v3), some (.int v4), some (.long a20.1), none, some (.int a20.2.1)] [] a20.2.2 R) a9) (hR : ∀ b9, r9 = .inr b9 → Sum.elim (fun e20 => Go XC (d + 1) 83 0 118 [some (.ref 43), some (.long v1), none, some (.int v3), some (.int v4), some (.long e20.1), none, some (.int e20.2.1)] [] e20.2.2 R) (fun o => R 0 (.inr (vZ o.1)) o.2) b9) : Go XC (d + 1) 83 0 20 [some (.ref 43), some (.long v1), none, some (.int v3), some (.int v4), some (.long a20.1), none, some (.int a20.2.1)] [] a20.2.2 R := by
  unfold L_83_20 at hr
  refine go_run mm_83 2 (pc' := 24) (ls' := [some (.ref 43), some (.long v1), none, some (.int v3), some (.int v4), some (.long a20.1), none, some (.int a20.2.1)]) (st' := [.int 64, .int a20.2.1]) (S' := a20.2.2) rfl ?_
  refine go_if2 mm_83 rfl (p1 := 27) (p2 := 118) rfl (fun (hc3 : a20.2.1 < 64) => ?_) (fun (hc3 : ¬ a20.2.1 < 64) => ?_)
  · rw [if_pos hc3] at hr
    refine go_run mm_83 2 (pc' := 31) (ls' := [some (.ref 43), some (.long v1), none, some (.int v3), some (.int v4), some (.long a20.1), none, some (.int a20.2.1)]) (st' := [.int a20.2.1, .long a20.1]) (S' := a20.2.2) rfl ?_
    refine go_cs mm_83 (av := [.long a20.1, .int a20.2.1]) (rest := []) (nl := 3) rfl (show csOK 83 31 48 177 2 3 = true by decide +kernel) rfl rfl rfl (S_177 rfl) (KP_V ?_)
    show Go XC (d + 1) 83 0 34 [some (.ref 43), some (.long v1), none, some (.int v3), some (.int v4), some (.long a20.1), none, some (.int a20.2.1)] [.int (b2i (F_177 a20.1 a20.2.1))] a20.2.2 R
    refine go_ifb mm_83 rfl (p1 := 40) (p2 := 37) rfl (fun (hc4 : (F_177 a20.1 a20.2.1) = true) => ?_) (fun (hc4 : (F_177 a20.1 a20.2.1) = false) => ?_)
    · rw [if_pos hc4] at hr
      refine go_run mm_83 1 (pc' := 42) (ls' := [some (.ref 43), some (.long v1), none, some (.int v3), some (.int v4), some (.long a20.1), none, some (.int a20.2.1)]) (st' := [.long a20.1]) (S' := a20.2.2) rfl ?_
      refine go_cs mm_83 (av := [.long a20.1]) (rest := []) (nl := 2) rfl (show csOK 83 42 52 366 1 2 = true by decide +kernel) rfl rfl rfl (S_366 rfl) (KP_V ?_)
      show Go XC (d + 1) 83 0 45 [some (.ref 43), some (.long v1), none, some (.int v3), some (.int v4), some (.long a20.1), none, some (.int a20.2.1)] [.int (F_366 a20.1)] a20.2.2 R
      refine go_run mm_83 3 (pc' := 49) (ls' := [some (.ref 43), some (.long v1), none, some (.int v3), some (.int v4), some (.long a20.1), none, some (.int a20.2.1)]) (st' := [.int (v3 - v4), .int (F_366 a20.1)]) (S' := a20.2.2) rfl ?_
      refine go_if2 mm_83 rfl (p1 := 52) (p2 := 54) rfl (fun (hc5 : (F_366 a20.1) < (v3 - v4)) => ?_) (fun (hc5 : ¬ (F_366 a20.1) < (v3 - v4)) => ?_)
      · rw [if_pos hc5] at hr
        refine go_run mm_83 1 (pc' := 53) (ls' := [some (.ref 43), some (.long v1), none, some (.int v3), some (.int v4), some (.long a20.1), none, some (.int a20.2.1)]) (st' := [.int 0]) (S' := a20.2.2) rfl ?_
        cases hr
        have h9 : R 0 (.inr (vZ false)) a20.2.2 := hR _ rfl
        exact go_zreturn mm_83 rfl rfl (Or.inl rfl) h9
      · rw [if_neg hc5] at hr
        refine go_run mm_83 4 (pc' := 62) (ls' := [some (.ref 43), some (.long v1), none, some (.int v3), some (.int v4), some (.long a20.1), none, some (.int a20.2.1)]) (st' := [.int a20.2.1, .int v4, .ref 45]) (S' := a20.2.2) rfl ?_
        obtain ⟨hb6, hr⟩ := ck_some hr
        refine go_iastore mm_83 (q := (Int32.toNatClampNeg v4)) rfl rfl rfl (ibd_ok hb6) ?_
        show Go XC (d + 1) 83 0 63 [some (.ref 43), some (.long v1), none, some (.int v3), some (.int v4), some (.long a20.1), none, some (.int a20.2.1)] [] (wI a20.2.2 45 (Int32.toNatClampNeg v4) a20.2.1) R
        obtain ⟨s7, es7, hr⟩ := sbn_some hr
        rw [← es7]
        refine go_run mm_83 12 (pc' := 81) (ls' := [some (.ref 43), some (.long v1), none, some (.int v3), some (.int v4), some (.long (a20.1 &&& ((1 <<< (Int32.toInt64 a20.2.1 &&& 63)) ^^^ (-1)))), none, some (.int a20.2.1)]) (st' := [.int v3, .int (v4 + 1)]) (S' := s7) rfl ?_
        refine go_if2 mm_83 rfl (p1 := 110) (p2 := 84) rfl (fun (hc8 : (v4 + 1) = v3) => ?_) (fun (hc8 : ¬ (v4 + 1) = v3) => ?_)
        · rw [if_pos hc8] at hr
          refine go_run mm_83 1 (pc' := 111) (ls' := [some (.ref 43), some (.long v1), none, some (.int v3), some (.int v4), some (.long (a20.1 &&& ((1 <<< (Int32.toInt64 a20.2.1 &&& 63)) ^^^ (-1)))), none, some (.int a20.2.1)]) (st' := [.int 1]) (S' := s7) rfl ?_
          cases hr
          have h9 : R 0 (.inr (vZ true)) s7 := hR _ rfl
          exact go_zreturn mm_83 rfl rfl (Or.inr rfl) h9
        · rw [if_neg hc8] at hr
          refine go_run mm_83 5 (pc' := 93) (ls' := [some (.ref 43), some (.long v1), none, some (.int v3), some (.int v4), some (.long (a20.1 &&& ((1 <<< (Int32.toInt64 a20.2.1 &&& 63)) ^^^ (-1)))), none, some (.int a20.2.1)]) (st' := [.int a20.2.1, .ref 44, .long (a20.1 &&& ((1 <<< (Int32.toInt64 a20.2.1 &&& 63)) ^^^ (-1))), .ref 43]) (S' := s7) rfl ?_
          obtain ⟨hb9, hr⟩ := ck_some hr
          refine go_laload mm_83 (q := (Int32.toNatClampNeg a20.2.1)) rfl rfl rfl (ibd_ok hb9) ?_
          show Go XC (d + 1) 83 0 94 [some (.ref 43), some (.long v1), none, some (.int v3), some (.int v4), some (.long (a20.1 &&& ((1 <<< (Int32.toInt64 a20.2.1 &&& 63)) ^^^ (-1)))), none, some (.int a20.2.1)] [.long (s7.2 44 (Int32.toNatClampNeg a20.2.1)), .long (a20.1 &&& ((1 <<< (Int32.toInt64 a20.2.1 &&& 63)) ^^^ (-1))), .ref 43] s7 R
          refine go_run mm_83 7 (pc' := 104) (ls' := [some (.ref 43), some (.long v1), none, some (.int v3), some (.int v4), some (.long (a20.1 &&& ((1 <<< (Int32.toInt64 a20.2.1 &&& 63)) ^^^ (-1)))), none, some (.int a20.2.1)]) (st' := [.int (v4 + 1), .int v3, .long ((a20.1 &&& ((1 <<< (Int32.toInt64 a20.2.1 &&& 63)) ^^^ (-1))) &&& ((s7.2 44 (Int32.toNatClampNeg a20.2.1)) ^^^ (-1))), .ref 43]) (S' := s7) rfl ?_
          obtain ⟨w1, hw1, hr⟩ := ob_some hr
          refine go_cv mm_83 (h := 43) (As := [.long ((a20.1 &&& ((1 <<< (Int32.toInt64 a20.2.1 &&& 63)) ^^^ (-1))) &&& ((s7.2 44 (Int32.toNatClampNeg a20.2.1)) ^^^ (-1))), .int v3, .int (v4 + 1)]) (rest := []) (nl := 8) rfl rfl (show cvOK 83 104 44 83 3 8 7 = true by decide +kernel) rfl rfl rfl (Cal.up (hrec hw1) (Nat.le_refl _)) (KP_V ?_)
          show Go XC (d + 1) 83 0 107 [some (.ref 43), some (.long v1), none, some (.int v3), some (.int v4), some (.long (a20.1 &&& ((1 <<< (Int32.toInt64 a20.2.1 &&& 63)) ^^^ (-1)))), none, some (.int a20.2.1)] [.int (b2i w1.1)] w1.2 R
          refine go_ifb mm_83 rfl (p1 := 110) (p2 := 112) rfl (fun (hc10 : w1.1 = true) => ?_) (fun (hc10 : w1.1 = false) => ?_)
          · rw [if_pos hc10] at hr
            refine go_run mm_83 1 (pc' := 111) (ls' := [some (.ref 43), some (.long v1), none, some (.int v3), some (.int v4), some (.long (a20.1 &&& ((1 <<< (Int32.toInt64 a20.2.1 &&& 63)) ^^^ (-1)))), none, some (.int a20.2.1)]) (st' := [.int 1]) (S' := w1.2) rfl ?_
            cases hr
            have h9 : R 0 (.inr (vZ true)) w1.2 := hR _ rfl
            exact go_zreturn mm_83 rfl rfl (Or.inr rfl) h9
          · rw [if_neg (bf hc10)] at hr
            refine go_run mm_83 2 (pc' := 20) (ls' := [some (.ref 43), some (.long v1), none, some (.int v3), some (.int v4), some (.long (a20.1 &&& ((1 <<< (Int32.toInt64 a20.2.1 &&& 63)) ^^^ (-1)))), none, some (.int (a20.2.1 + 1))]) (st' := []) (S' := w1.2) rfl ?_
            cases hr
            have h9 := hL (a20.1 &&& ((1 <<< (Int32.toInt64 a20.2.1 &&& 63)) ^^^ (-1)), a20.2.1 + 1, w1.2) rfl
            dsimp only at h9
            exact Go.le h9 (by repeat first | exact True.intro | refine And.intro rfl ?_)
    · rw [if_neg (bf hc4)] at hr
      refine go_run mm_83 3 (pc' := 20) (ls' := [some (.ref 43), some (.long v1), none, some (.int v3), some (.int v4), some (.long a20.1), none, some (.int (a20.2.1 + 1))]) (st' := []) (S' := a20.2.2) rfl ?_
      cases hr
      have h9 := hL (a20.1, a20.2.1 + 1, a20.2.2) rfl
      dsimp only at h9
      exact Go.le h9 (by repeat first | exact True.intro | refine And.intro rfl ?_)
  · rw [if_neg hc3] at hr
    cases hr
    have h9 := hR (.inl (a20.1, a20.2.1, a20.2.2)) rfl
    dsimp only [Sum.elim_inl] at h9
    exact Go.le h9 (by repeat first | exact True.intro | refine And.intro rfl ?_)
def B_83 (rec : Int64 → Int32 → Int32 → ST → Option (Bool × ST)) (v1 : Int64) (v3 : Int32) (v4 : Int32) (S : ST) : Option (Bool × ST) := if v4 < v3 then (if v4 < 4 then (ob (wh FU (L_83_20 rec v1 v3 v4) (v1, 0, S)) (fun z => Sum.elim (fun e20 => some (false, e20.2.2)) (fun o => some o) z)) else (some (false, S))) else (some (false, S))
def F_83 : Nat → Int64 → Int32 → Int32 → ST → Option (Bool × ST)
  | 0, _, _, _ => fun _ => none
  | n + 1, v1, v3, v4 => fun S => B_83 (F_83 n) v1 v3 v4 S
set_option maxRecDepth 20000 in
theorem S_83 : ∀ (n : Nat) {d : Nat} {v1 : Int64} {v3 : Int32} {v4 : Int32} {S : ST} {r} (_ : F_83 n v1 v3 v4 S = some r), Cal XC (d + n + 1) 83 [.ref 43, .long v1, .int v3, .int v4] S (RV (vZ r.1) r.2) := by
  intro n
  induction n with
  | zero => intro d v1 v3 v4 S r hr; cases hr
  | succ n ih =>
    intro d v1 v3 v4 S r hr
    have hr : B_83 (F_83 n) v1 v3 v4 S = some r := hr
    unfold B_83 at hr
    have hrec : ∀ {v1 : Int64} {v3 : Int32} {v4 : Int32} {S : ST} {r}, F_83 n v1 v3 v4 S = some r → Cal XC (d + (n + 1) + 0) 83 [.ref 43, .long v1, .int v3, .int v4] S (RV (vZ r.1) r.2) := fun h => Cal.up (ih (d := d) h) (Nat.le_of_eq (by omega))
    refine cal_go 3 rfl ?_
    refine go_run mm_83 2 (pc' := 3) (ls' := [some (.ref 43), some (.long v1), none, some (.int v3), some (.int v4), none, none, none]) (st' := [.int v3, .int v4]) (S' := S) rfl ?_
    refine go_if2 mm_83 rfl (p1 := 6) (p2 := 12) rfl (fun (hc1 : v4 < v3) => ?_) (fun (hc1 : ¬ v4 < v3) => ?_)
    · rw [if_pos hc1] at hr
      refine go_run mm_83 2 (pc' := 9) (ls' := [some (.ref 43), some (.long v1), none, some (.int v3), some (.int v4), none, none, none]) (st' := [.int 4, .int v4]) (S' := S) rfl ?_
      refine go_if2 mm_83 rfl (p1 := 14) (p2 := 12) rfl (fun (hc2 : v4 < 4) => ?_) (fun (hc2 : ¬ v4 < 4) => ?_)
      · rw [if_pos hc2] at hr
        refine go_run mm_83 4 (pc' := 20) (ls' := [some (.ref 43), some (.long v1), none, some (.int v3), some (.int v4), some (.long v1), none, some (.int 0)]) (st' := []) (S' := S) rfl ?_
        obtain ⟨z20, he20, hr⟩ := ob_some hr
        refine Go.le (ls' := [some (.ref 43), some (.long v1), none, some (.int v3), some (.int v4), some (.long v1), none, some (.int 0)]) ?_ (by repeat first | exact True.intro | refine And.intro rfl ?_)
        refine wh_go (P := fun a20 => Go XC (d + (n + 1) + 1) 83 0 20 [some (.ref 43), some (.long v1), none, some (.int v3), some (.int v4), some (.long a20.1), none, some (.int a20.2.1)] [] a20.2.2 (RV (vZ r.1) r.2)) (K := fun z => Sum.elim (fun e20 => Go XC (d + (n + 1) + 1) 83 0 118 [some (.ref 43), some (.long v1), none, some (.int v3), some (.int v4), some (.long e20.1), none, some (.int e20.2.1)] [] e20.2.2 (RV (vZ r.1) r.2)) (fun o => (RV (vZ r.1) r.2) 0 (.inr (vZ o.1)) o.2) z) (fun a9 r9 h9 hL hR => LS_83_20 hrec h9 hL hR) _ _ _ he20 ?_
        rcases z20 with e20 | o
        rotate_left
        · simp only [Sum.elim_inr] at hr
          cases hr
          exact ⟨rfl, rfl, rfl⟩
        simp only [Sum.elim_inl] at hr
        show Go XC (d + (n + 1) + 1) 83 0 118 [some (.ref 43), some (.long v1), none, some (.int v3), some (.int v4), some (.long e20.1), none, some (.int e20.2.1)] [] e20.2.2 (RV (vZ r.1) r.2)
        refine go_run mm_83 1 (pc' := 119) (ls' := [some (.ref 43), some (.long v1), none, some (.int v3), some (.int v4), some (.long e20.1), none, some (.int e20.2.1)]) (st' := [.int 0]) (S' := e20.2.2) rfl ?_
        cases hr
        exact go_zreturn mm_83 rfl rfl (Or.inl rfl) ⟨rfl, rfl, rfl⟩
      · rw [if_neg hc2] at hr
        refine go_run mm_83 1 (pc' := 13) (ls' := [some (.ref 43), some (.long v1), none, some (.int v3), some (.int v4), none, none, none]) (st' := [.int 0]) (S' := S) rfl ?_
        cases hr
        exact go_zreturn mm_83 rfl rfl (Or.inl rfl) ⟨rfl, rfl, rfl⟩
    · rw [if_neg hc1] at hr
      refine go_run mm_83 1 (pc' := 13) (ls' := [some (.ref 43), some (.long v1), none, some (.int v3), some (.int v4), none, none, none]) (st' := [.int 0]) (S' := S) rfl ?_
      cases hr
      exact go_zreturn mm_83 rfl rfl (Or.inl rfl) ⟨rfl, rfl, rfl⟩

theorem mm_81 : mtG 81 = some (mi_81, 8, ft_81) := rfl
def L_81_14 (a14 : Int32 × ST) : Option ((Int32 × ST) ⊕ (Int32 × ST)) := if a14.1 < 64 then (ob (F_73 a14.1 a14.2) (fun w1 => ob (F_74 w1 a14.2) (fun w2 => ck (ibd a14.1 64) (sbn ((wL a14.2 44 (Int32.toNatClampNeg a14.1) w2)) (fun s4 => some (.inl (a14.1 + 1, s4))))))) else (some (.inr (a14.1, a14.2)))
set_option maxRecDepth 20000 in
theorem LS_81_14 {d : Nat} {R : RT} {a14 : Int32 × ST} {r9} (hr : L_81_14 a14 = some r9) (hL : ∀ a9, r9 = .inl a9 → (fun a14 => Go XC (d + 8) 81 0 14 [some (.ref 43), some (.int a14.1)] [] a14.2 R) a9) (hR : ∀ b9, r9 = .inr b9 → (fun e14 => Go XC (d + 8) 81 0 47 [some (.ref 43), some (.int e14.1)] [] e14.2 R) b9) : Go XC (d + 8) 81 0 14 [some (.ref 43), some (.int a14.1)] [] a14.2 R := by
  unfold L_81_14 at hr
  refine go_run mm_81 2 (pc' := 17) (ls' := [some (.ref 43), some (.int a14.1)]) (st' := [.int 64, .int a14.1]) (S' := a14.2) rfl ?_
  refine go_if2 mm_81 rfl (p1 := 20) (p2 := 47) rfl (fun (hc2 : a14.1 < 64) => ?_) (fun (hc2 : ¬ a14.1 < 64) => ?_)
  · rw [if_pos hc2] at hr
    refine go_run mm_81 8 (pc' := 34) (ls' := [some (.ref 43), some (.int a14.1)]) (st' := [.int a14.1, .ref 30, .ref 30, .int a14.1, .ref 44]) (S' := a14.2) rfl ?_
    obtain ⟨w1, hw1, hr⟩ := ob_some hr
    refine go_cv mm_81 (h := 30) (As := [.int a14.1]) (rest := [.ref 30, .int a14.1, .ref 44]) (nl := 2) rfl rfl (show cvOK 81 34 30 73 1 2 6 = true by decide +kernel) rfl rfl rfl (S_73 hw1) (KP_V ?_)
    show Go XC (d + 8) 81 0 37 [some (.ref 43), some (.int a14.1)] [.long w1, .ref 30, .int a14.1, .ref 44] a14.2 R
    obtain ⟨w2, hw2, hr⟩ := ob_some hr
    refine go_cv mm_81 (h := 30) (As := [.long w1]) (rest := [.int a14.1, .ref 44]) (nl := 6) rfl rfl (show cvOK 81 37 36 74 1 6 6 = true by decide +kernel) rfl rfl rfl (S_74 hw2) (KP_V ?_)
    show Go XC (d + 8) 81 0 40 [some (.ref 43), some (.int a14.1)] [.long w2, .int a14.1, .ref 44] a14.2 R
    obtain ⟨hb3, hr⟩ := ck_some hr
    refine go_lastore mm_81 (q := (Int32.toNatClampNeg a14.1)) rfl rfl rfl (ibd_ok hb3) ?_
    show Go XC (d + 8) 81 0 41 [some (.ref 43), some (.int a14.1)] [] (wL a14.2 44 (Int32.toNatClampNeg a14.1) w2) R
    obtain ⟨s4, es4, hr⟩ := sbn_some hr
    rw [← es4]
    refine go_run mm_81 2 (pc' := 14) (ls' := [some (.ref 43), some (.int (a14.1 + 1))]) (st' := []) (S' := s4) rfl ?_
    cases hr
    have h9 := hL (a14.1 + 1, s4) rfl
    dsimp only at h9
    exact Go.le h9 (by repeat first | exact True.intro | refine And.intro rfl ?_)
  · rw [if_neg hc2] at hr
    cases hr
    have h9 := hR (a14.1, a14.2) rfl
    dsimp only [Sum.elim_inl] at h9
    exact Go.le h9 (by repeat first | exact True.intro | refine And.intro rfl ?_)
def L_81_49 (a49 : Int32 × ST) : Option ((Int32 × ST) ⊕ (Int32 × ST)) := if a49.1 < 1 then (some (.inr (a49.1, a49.2))) else (if (a49.2.1 43 3) = 0 then (ob (F_83 6 (F_71 a49.2) a49.1 0 a49.2) (fun w3 => if w3.1 = true then (some (.inl (a49.1 + (-1), (wI w3.2 43 3 a49.1)))) else (some (.inl (a49.1 + (-1), w3.2))))) else (some (.inr (a49.1, a49.2))))
set_option maxRecDepth 20000 in
theorem LS_81_49 {d : Nat} {R : RT} {a49 : Int32 × ST} {r9} (hr : L_81_49 a49 = some r9) (hL : ∀ a9, r9 = .inl a9 → (fun a49 => Go XC (d + 8) 81 0 49 [some (.ref 43), some (.int a49.1)] [] a49.2 R) a9) (hR : ∀ b9, r9 = .inr b9 → (fun e49 => Go XC (d + 8) 81 0 88 [some (.ref 43), some (.int e49.1)] [] e49.2 R) b9) : Go XC (d + 8) 81 0 49 [some (.ref 43), some (.int a49.1)] [] a49.2 R := by
  unfold L_81_49 at hr
  refine go_run mm_81 2 (pc' := 51) (ls' := [some (.ref 43), some (.int a49.1)]) (st' := [.int 1, .int a49.1]) (S' := a49.2) rfl ?_
  refine go_if2 mm_81 rfl (p1 := 88) (p2 := 54) rfl (fun (hc5 : a49.1 < 1) => ?_) (fun (hc5 : ¬ a49.1 < 1) => ?_)
  · rw [if_pos hc5] at hr
    cases hr
    have h9 := hR (a49.1, a49.2) rfl
    dsimp only [Sum.elim_inl] at h9
    exact Go.le h9 (by repeat first | exact True.intro | refine And.intro rfl ?_)
  · rw [if_neg hc5] at hr
    refine go_run mm_81 2 (pc' := 58) (ls' := [some (.ref 43), some (.int a49.1)]) (st' := [.int (a49.2.1 43 3)]) (S' := a49.2) rfl ?_
    refine go_if0 mm_81 rfl (p1 := 61) (p2 := 88) rfl (fun (hc6 : (a49.2.1 43 3) = 0) => ?_) (fun (hc6 : ¬ (a49.2.1 43 3) = 0) => ?_)
    · rw [if_pos hc6] at hr
      refine go_run mm_81 3 (pc' := 66) (ls' := [some (.ref 43), some (.int a49.1)]) (st' := [.ref 30, .ref 43]) (S' := a49.2) rfl ?_
      refine go_cv mm_81 (h := 30) (As := []) (rest := [.ref 43]) (nl := 1) rfl rfl (show cvOK 81 66 40 71 0 1 6 = true by decide +kernel) rfl rfl rfl (S_71 rfl) (KP_V ?_)
      show Go XC (d + 8) 81 0 69 [some (.ref 43), some (.int a49.1)] [.long (F_71 a49.2), .ref 43] a49.2 R
      refine go_run mm_81 2 (pc' := 71) (ls' := [some (.ref 43), some (.int a49.1)]) (st' := [.int 0, .int a49.1, .long (F_71 a49.2), .ref 43]) (S' := a49.2) rfl ?_
      obtain ⟨w3, hw3, hr⟩ := ob_some hr
      refine go_cv mm_81 (h := 43) (As := [.long (F_71 a49.2), .int a49.1, .int 0]) (rest := []) (nl := 8) rfl rfl (show cvOK 81 71 44 83 3 8 7 = true by decide +kernel) rfl rfl rfl (S_83 _ hw3) (KP_V ?_)
      show Go XC (d + 8) 81 0 74 [some (.ref 43), some (.int a49.1)] [.int (b2i w3.1)] w3.2 R
      refine go_ifb mm_81 rfl (p1 := 77) (p2 := 82) rfl (fun (hc7 : w3.1 = true) => ?_) (fun (hc7 : w3.1 = false) => ?_)
      · rw [if_pos hc7] at hr
        refine go_run mm_81 5 (pc' := 49) (ls' := [some (.ref 43), some (.int (a49.1 + (-1)))]) (st' := []) (S' := (wI w3.2 43 3 a49.1)) rfl ?_
        cases hr
        have h9 := hL (a49.1 + (-1), (wI w3.2 43 3 a49.1)) rfl
        dsimp only at h9
        exact Go.le h9 (by repeat first | exact True.intro | refine And.intro rfl ?_)
      · rw [if_neg (bf hc7)] at hr
        refine go_run mm_81 2 (pc' := 49) (ls' := [some (.ref 43), some (.int (a49.1 + (-1)))]) (st' := []) (S' := w3.2) rfl ?_
        cases hr
        have h9 := hL (a49.1 + (-1), w3.2) rfl
        dsimp only at h9
        exact Go.le h9 (by repeat first | exact True.intro | refine And.intro rfl ?_)
    · rw [if_neg hc6] at hr
      cases hr
      have h9 := hR (a49.1, a49.2) rfl
      dsimp only [Sum.elim_inl] at h9
      exact Go.le h9 (by repeat first | exact True.intro | refine And.intro rfl ?_)
def F_81 (S : ST) : Option (Int32 × ST) := if (S.1 43 3) = 0 then (ob (wh FU (L_81_14) (0, S)) (fun e14 => ob (wh FU (L_81_49) (4, e14.2)) (fun e49 => some (e49.2.1 43 3, e49.2)))) else (some (S.1 43 3, S))
set_option maxRecDepth 20000 in
theorem S_81 {d : Nat} {S : ST} {r} (hr : F_81 S = some r) : Cal XC (d + 8) 81 [.ref 43] S (RV (vI r.1) r.2) := by
  unfold F_81 at hr
  refine cal_go 1 rfl ?_
  refine go_run mm_81 2 (pc' := 4) (ls' := [some (.ref 43), none]) (st' := [.int (S.1 43 3)]) (S' := S) rfl ?_
  refine go_if0 mm_81 rfl (p1 := 12) (p2 := 7) rfl (fun (hc1 : (S.1 43 3) = 0) => ?_) (fun (hc1 : ¬ (S.1 43 3) = 0) => ?_)
  · rw [if_pos hc1] at hr
    refine go_run mm_81 2 (pc' := 14) (ls' := [some (.ref 43), some (.int 0)]) (st' := []) (S' := S) rfl ?_
    obtain ⟨z14, he14, hr⟩ := ob_some hr
    refine Go.le (ls' := [some (.ref 43), some (.int 0)]) ?_ (by repeat first | exact True.intro | refine And.intro rfl ?_)
    refine wh_go (P := fun a14 => Go XC (d + 8) 81 0 14 [some (.ref 43), some (.int a14.1)] [] a14.2 (RV (vI r.1) r.2)) (K := fun e14 => Go XC (d + 8) 81 0 47 [some (.ref 43), some (.int e14.1)] [] e14.2 (RV (vI r.1) r.2)) (fun a9 r9 h9 hL hR => LS_81_14 h9 hL hR) _ _ _ he14 ?_
    generalize z14 = e14 at hr
    show Go XC (d + 8) 81 0 47 [some (.ref 43), some (.int e14.1)] [] e14.2 (RV (vI r.1) r.2)
    refine go_run mm_81 2 (pc' := 49) (ls' := [some (.ref 43), some (.int 4)]) (st' := []) (S' := e14.2) rfl ?_
    obtain ⟨z49, he49, hr⟩ := ob_some hr
    refine Go.le (ls' := [some (.ref 43), some (.int 4)]) ?_ (by repeat first | exact True.intro | refine And.intro rfl ?_)
    refine wh_go (P := fun a49 => Go XC (d + 8) 81 0 49 [some (.ref 43), some (.int a49.1)] [] a49.2 (RV (vI r.1) r.2)) (K := fun e49 => Go XC (d + 8) 81 0 88 [some (.ref 43), some (.int e49.1)] [] e49.2 (RV (vI r.1) r.2)) (fun a9 r9 h9 hL hR => LS_81_49 h9 hL hR) _ _ _ he49 ?_
    generalize z49 = e49 at hr
    show Go XC (d + 8) 81 0 88 [some (.ref 43), some (.int e49.1)] [] e49.2 (RV (vI r.1) r.2)
    refine go_run mm_81 2 (pc' := 92) (ls' := [some (.ref 43), some (.int e49.1)]) (st' := [.int (e49.2.1 43 3)]) (S' := e49.2) rfl ?_
    cases hr
    exact go_ireturn mm_81 rfl rfl ⟨rfl, rfl, rfl⟩
  · rw [if_neg hc1] at hr
    refine go_run mm_81 2 (pc' := 11) (ls' := [some (.ref 43), none]) (st' := [.int (S.1 43 3)]) (S' := S) rfl ?_
    cases hr
    exact go_ireturn mm_81 rfl rfl ⟨rfl, rfl, rfl⟩

theorem mm_82 : mtG 82 = some (mi_82, 8, ft_82) := rfl
def F_82 (v1 : Int32) (S : ST) : Option Int32 := if v1 < 0 then (some (-1)) else (if v1 < 4 then (ck (ibd v1 4) (some (S.1 45 (Int32.toNatClampNeg v1)))) else (some (-1)))
set_option maxRecDepth 20000 in
theorem S_82 {d : Nat} {S : ST} {v1 : Int32} {r} (hr : F_82 v1 S = some r) : Cal XC d 82 [.ref 43, .int v1] S (RV (vI r) S) := by
  unfold F_82 at hr
  refine cal_go 0 rfl ?_
  refine go_run mm_82 1 (pc' := 1) (ls' := [some (.ref 43), some (.int v1)]) (st' := [.int v1]) (S' := S) rfl ?_
  refine go_if0 mm_82 rfl (p1 := 18) (p2 := 4) rfl (fun (hc1 : v1 < 0) => ?_) (fun (hc1 : ¬ v1 < 0) => ?_)
  · rw [if_pos hc1] at hr
    refine go_run mm_82 1 (pc' := 19) (ls' := [some (.ref 43), some (.int v1)]) (st' := [.int (-1)]) (S' := S) rfl ?_
    cases hr
    exact go_ireturn mm_82 rfl rfl ⟨rfl, rfl, rfl⟩
  · rw [if_neg hc1] at hr
    refine go_run mm_82 2 (pc' := 6) (ls' := [some (.ref 43), some (.int v1)]) (st' := [.int 4, .int v1]) (S' := S) rfl ?_
    refine go_if2 mm_82 rfl (p1 := 9) (p2 := 18) rfl (fun (hc2 : v1 < 4) => ?_) (fun (hc2 : ¬ v1 < 4) => ?_)
    · rw [if_pos hc2] at hr
      refine go_run mm_82 3 (pc' := 14) (ls' := [some (.ref 43), some (.int v1)]) (st' := [.int v1, .ref 45]) (S' := S) rfl ?_
      obtain ⟨hb3, hr⟩ := ck_some hr
      refine go_iaload mm_82 (q := (Int32.toNatClampNeg v1)) rfl rfl rfl (ibd_ok hb3) ?_
      show Go XC d 82 0 15 [some (.ref 43), some (.int v1)] [.int (S.1 45 (Int32.toNatClampNeg v1))] S (RV (vI r) S)
      refine go_run mm_82 1 (pc' := 19) (ls' := [some (.ref 43), some (.int v1)]) (st' := [.int (S.1 45 (Int32.toNatClampNeg v1))]) (S' := S) rfl ?_
      cases hr
      exact go_ireturn mm_82 rfl rfl ⟨rfl, rfl, rfl⟩
    · rw [if_neg hc2] at hr
      refine go_run mm_82 1 (pc' := 19) (ls' := [some (.ref 43), some (.int v1)]) (st' := [.int (-1)]) (S' := S) rfl ?_
      cases hr
      exact go_ireturn mm_82 rfl rfl ⟨rfl, rfl, rfl⟩

theorem mm_87 : mtG 87 = some (mi_87, 8, ft_87) := rfl
def L_87_3 (v1 : Int32) (v2 : Int64) (S : ST) (a3 : Int32) : Option ((Int32) ⊕ ((Int32) ⊕ Bool)) := if a3 < 64 then (if a3 = v1 then (some (.inl (a3 + 1))) else (if (F_177 v2 a3) = true then (ob (F_73 a3 S) (fun w1 => ob (F_73 v1 S) (fun w2 => if ((w1 &&& v2) &&& (w2 ^^^ (-1))) = 0 then (some (.inr (.inr true))) else (some (.inl (a3 + 1)))))) else (some (.inl (a3 + 1))))) else (some (.inr (.inl (a3))))
set_option maxRecDepth 20000 in
theorem LS_87_3 {d : Nat} {R : RT} {S : ST} {v1 : Int32} {v2 : Int64} {a3 : Int32} {r9} (hr : L_87_3 v1 v2 S a3 = some r9) (hL : ∀ a9, r9 = .inl a9 → (fun a3 => Go XC (d + 1) 87 0 3 [some (.ref 43), some (.int v1), some (.long v2), none, some (.int a3)] [] S R) a9) (hR : ∀ b9, r9 = .inr b9 → Sum.elim (fun e3 => Go XC (d + 1) 87 0 62 [some (.ref 43), some (.int v1), some (.long v2), none, some (.int e3)] [] S R) (fun o => R 0 (.inr (vZ o)) S) b9) : Go XC (d + 1) 87 0 3 [some (.ref 43), some (.int v1), some (.long v2), none, some (.int a3)] [] S R := by
  unfold L_87_3 at hr
  refine go_run mm_87 2 (pc' := 7) (ls' := [some (.ref 43), some (.int v1), some (.long v2), none, some (.int a3)]) (st' := [.int 64, .int a3]) (S' := S) rfl ?_
  refine go_if2 mm_87 rfl (p1 := 10) (p2 := 62) rfl (fun (hc1 : a3 < 64) => ?_) (fun (hc1 : ¬ a3 < 64) => ?_)
  · rw [if_pos hc1] at hr
    refine go_run mm_87 2 (pc' := 13) (ls' := [some (.ref 43), some (.int v1), some (.long v2), none, some (.int a3)]) (st' := [.int v1, .int a3]) (S' := S) rfl ?_
    refine go_if2 mm_87 rfl (p1 := 56) (p2 := 16) rfl (fun (hc2 : a3 = v1) => ?_) (fun (hc2 : ¬ a3 = v1) => ?_)
    · rw [if_pos hc2] at hr
      refine go_run mm_87 2 (pc' := 3) (ls' := [some (.ref 43), some (.int v1), some (.long v2), none, some (.int (a3 + 1))]) (st' := []) (S' := S) rfl ?_
      cases hr
      have h9 := hL (a3 + 1) rfl
      dsimp only at h9
      exact Go.le h9 (by repeat first | exact True.intro | refine And.intro rfl ?_)
    · rw [if_neg hc2] at hr
      refine go_run mm_87 2 (pc' := 19) (ls' := [some (.ref 43), some (.int v1), some (.long v2), none, some (.int a3)]) (st' := [.int a3, .long v2]) (S' := S) rfl ?_
      refine go_cs mm_87 (av := [.long v2, .int a3]) (rest := []) (nl := 3) rfl (show csOK 87 19 48 177 2 3 = true by decide +kernel) rfl rfl rfl (S_177 rfl) (KP_V ?_)
      show Go XC (d + 1) 87 0 22 [some (.ref 43), some (.int v1), some (.long v2), none, some (.int a3)] [.int (b2i (F_177 v2 a3))] S R
      refine go_ifb mm_87 rfl (p1 := 25) (p2 := 56) rfl (fun (hc3 : (F_177 v2 a3) = true) => ?_) (fun (hc3 : (F_177 v2 a3) = false) => ?_)
      · rw [if_pos hc3] at hr
        refine go_run mm_87 3 (pc' := 31) (ls' := [some (.ref 43), some (.int v1), some (.long v2), none, some (.int a3)]) (st' := [.int a3, .ref 30]) (S' := S) rfl ?_
        obtain ⟨w1, hw1, hr⟩ := ob_some hr
        refine go_cv mm_87 (h := 30) (As := [.int a3]) (rest := []) (nl := 2) rfl rfl (show cvOK 87 31 30 73 1 2 6 = true by decide +kernel) rfl rfl rfl (S_73 hw1) (KP_V ?_)
        show Go XC (d + 1) 87 0 34 [some (.ref 43), some (.int v1), some (.long v2), none, some (.int a3)] [.long w1] S R
        refine go_run mm_87 5 (pc' := 41) (ls' := [some (.ref 43), some (.int v1), some (.long v2), none, some (.int a3)]) (st' := [.int v1, .ref 30, .long (w1 &&& v2)]) (S' := S) rfl ?_
        obtain ⟨w2, hw2, hr⟩ := ob_some hr
        refine go_cv mm_87 (h := 30) (As := [.int v1]) (rest := [.long (w1 &&& v2)]) (nl := 2) rfl rfl (show cvOK 87 41 30 73 1 2 6 = true by decide +kernel) rfl rfl rfl (S_73 hw2) (KP_V ?_)
        show Go XC (d + 1) 87 0 44 [some (.ref 43), some (.int v1), some (.long v2), none, some (.int a3)] [.long w2, .long (w1 &&& v2)] S R
        refine go_run mm_87 4 (pc' := 50) (ls' := [some (.ref 43), some (.int v1), some (.long v2), none, some (.int a3)]) (st' := [.long 0, .long ((w1 &&& v2) &&& (w2 ^^^ (-1)))]) (S' := S) rfl ?_
        refine go_lif mm_87 rfl rfl (p1 := 54) (p2 := 56) rfl (fun (hc4 : ((w1 &&& v2) &&& (w2 ^^^ (-1))) = 0) => ?_) (fun (hc4 : ¬ ((w1 &&& v2) &&& (w2 ^^^ (-1))) = 0) => ?_)
        · rw [if_pos hc4] at hr
          refine go_run mm_87 1 (pc' := 55) (ls' := [some (.ref 43), some (.int v1), some (.long v2), none, some (.int a3)]) (st' := [.int 1]) (S' := S) rfl ?_
          cases hr
          have h9 : R 0 (.inr (vZ true)) S := hR _ rfl
          exact go_zreturn mm_87 rfl rfl (Or.inr rfl) h9
        · rw [if_neg hc4] at hr
          refine go_run mm_87 2 (pc' := 3) (ls' := [some (.ref 43), some (.int v1), some (.long v2), none, some (.int (a3 + 1))]) (st' := []) (S' := S) rfl ?_
          cases hr
          have h9 := hL (a3 + 1) rfl
          dsimp only at h9
          exact Go.le h9 (by repeat first | exact True.intro | refine And.intro rfl ?_)
      · rw [if_neg (bf hc3)] at hr
        refine go_run mm_87 2 (pc' := 3) (ls' := [some (.ref 43), some (.int v1), some (.long v2), none, some (.int (a3 + 1))]) (st' := []) (S' := S) rfl ?_
        cases hr
        have h9 := hL (a3 + 1) rfl
        dsimp only at h9
        exact Go.le h9 (by repeat first | exact True.intro | refine And.intro rfl ?_)
  · rw [if_neg hc1] at hr
    cases hr
    have h9 := hR (.inl (a3)) rfl
    dsimp only [Sum.elim_inl] at h9
    exact Go.le h9 (by repeat first | exact True.intro | refine And.intro rfl ?_)
def F_87 (v1 : Int32) (v2 : Int64) (S : ST) : Option Bool := ob (wh FU (L_87_3 v1 v2 S) (0)) (fun z => Sum.elim (fun e3 => some false) (fun o => some o) z)
set_option maxRecDepth 20000 in
theorem S_87 {d : Nat} {S : ST} {v1 : Int32} {v2 : Int64} {r} (hr : F_87 v1 v2 S = some r) : Cal XC (d + 1) 87 [.ref 43, .int v1, .long v2] S (RV (vZ r) S) := by
  unfold F_87 at hr
  refine cal_go 1 rfl ?_
  refine go_run mm_87 2 (pc' := 3) (ls' := [some (.ref 43), some (.int v1), some (.long v2), none, some (.int 0)]) (st' := []) (S' := S) rfl ?_
  obtain ⟨z3, he3, hr⟩ := ob_some hr
  refine Go.le (ls' := [some (.ref 43), some (.int v1), some (.long v2), none, some (.int 0)]) ?_ (by repeat first | exact True.intro | refine And.intro rfl ?_)
  refine wh_go (P := fun a3 => Go XC (d + 1) 87 0 3 [some (.ref 43), some (.int v1), some (.long v2), none, some (.int a3)] [] S (RV (vZ r) S)) (K := fun z => Sum.elim (fun e3 => Go XC (d + 1) 87 0 62 [some (.ref 43), some (.int v1), some (.long v2), none, some (.int e3)] [] S (RV (vZ r) S)) (fun o => (RV (vZ r) S) 0 (.inr (vZ o)) S) z) (fun a9 r9 h9 hL hR => LS_87_3 h9 hL hR) _ _ _ he3 ?_
  rcases z3 with e3 | o
  rotate_left
  · simp only [Sum.elim_inr] at hr
    cases hr
    exact ⟨rfl, rfl, rfl⟩
  simp only [Sum.elim_inl] at hr
  show Go XC (d + 1) 87 0 62 [some (.ref 43), some (.int v1), some (.long v2), none, some (.int e3)] [] S (RV (vZ r) S)
  refine go_run mm_87 1 (pc' := 63) (ls' := [some (.ref 43), some (.int v1), some (.long v2), none, some (.int e3)]) (st' := [.int 0]) (S' := S) rfl ?_
  cases hr
  exact go_zreturn mm_87 rfl rfl (Or.inl rfl) ⟨rfl, rfl, rfl⟩
