def MTT : List (List (MI × Nat × List (Nat × Instr))) := [mt_0, mt_1, mt_2, mt_3, mt_4, mt_5, mt_6, mt_7, mt_8, mt_9, mt_10, mt_11, mt_12, mt_13, mt_14, mt_15, mt_16, mt_17, mt_18, mt_19, mt_20, mt_21, mt_22]
def mtG (k : Nat) : Option (MI × Nat × List (Nat × Instr)) := match MTT[k / 16]? with
  | some l => l[k % 16]?
  | none => none
theorem mtG_mem {k : Nat} {e : MI × Nat × List (Nat × Instr)} (h : mtG k = some e) : ∃ l ∈ MTT, e ∈ l := by
  unfold mtG at h
  split at h
  · next l hl => exact ⟨l, List.mem_of_getElem? hl, List.mem_of_getElem? h⟩
  · cases h
def ntM (k : Nat) : Option MI := match mtG k with
  | some e => some e.1
  | none => none
def ntF (k pc : Nat) : Option Instr := match mtG k with
  | some e => lkp e.2.2 pc
  | none => none
def ntK (k : Nat) : LK := match mtG k with
  | some e => lkO e.2.1
  | none => (fun _ => none, fun _ => none, fun _ => none)
def ntC (k ix : Nat) : Option (Nat × Nat × Nat × Nat) := match mtG k with
  | some e => lkp (ot e.2.1).2.2.2 ix
  | none => none
theorem mtt_ok : ∀ l ∈ MTT, ∀ e ∈ l, dOK e.1.2.1 e.2.2 := (fm_c mt_0_ok (fm_c mt_1_ok (fm_c mt_2_ok (fm_c mt_3_ok (fm_c mt_4_ok (fm_c mt_5_ok (fm_c mt_6_ok (fm_c mt_7_ok (fm_c mt_8_ok (fm_c mt_9_ok (fm_c mt_10_ok (fm_c mt_11_ok (fm_c mt_12_ok (fm_c mt_13_ok (fm_c mt_14_ok (fm_c mt_15_ok (fm_c mt_16_ok (fm_c mt_17_ok (fm_c mt_18_ok (fm_c mt_19_ok (fm_c mt_20_ok (fm_c mt_21_ok (fm_c mt_22_ok fm_n)))))))))))))))))))))))
theorem mtt_nm : ∀ l ∈ MTT, ∀ e ∈ l, plainName e.1.1.cls = true ∧ e.1.2.2.1 ≤ 150 ∧ ON[e.2.1]? = some e.1.1.cls := by decide +kernel
def CE (own : String) (e : Nat × Nat × Nat × Nat × Nat) : Prop := ∀ M', ntM e.2.1 = some M' →
  (e.2.2.1 = 0 → M'.2.2.2.2 = [] ∧ CV own e.1 M'.1 M'.2.1 M'.2.2.1 M'.2.2.2.1 e.2.2.2.1 ∧ ∃ q, CL[e.2.2.2.2]? = some q ∧ q.1 = M'.1.cls) ∧
  (e.2.2.1 = 1 → M'.2.2.2.2 = [] ∧ CS own e.1 M'.1 M'.2.1 M'.2.2.1 M'.2.2.2.1 e.2.2.2.1) ∧
  (e.2.2.1 = 2 → M'.2.2.2.2 = [] ∧ CSN own e.1 M'.1 M'.2.1 M'.2.2.1 M'.2.2.2.1 e.2.2.2.1) ∧
  (3 ≤ e.2.2.1 → M'.2.2.2.2 ≠ [] ∧ CSW own e.1 M'.1 M'.2.1 M'.2.2.1 M'.2.2.2.1 M'.2.2.2.2 e.2.2.2.1)
theorem ce_0 {own : String} {ix k na ci : Nat} {M : MI} {q : vw_C} (hk : ntM k = some M) (h0 : M.2.2.2.2 = []) (h : CV own ix M.1 M.2.1 M.2.2.1 M.2.2.2.1 na) (hq : CL[ci]? = some q) (hn : q.1 = M.1.cls) : CE own (ix, k, 0, na, ci) := by
  intro M' hM
  cases hk.symm.trans hM
  exact ⟨fun _ => ⟨h0, h, q, hq, hn⟩, fun e => absurd e (by show ¬ 0 = 1; decide), fun e => absurd e (by show ¬ 0 = 2; decide), fun e => absurd e (by show ¬ 3 ≤ 0; decide)⟩
theorem ce_1 {own : String} {ix k na ci : Nat} {M : MI} (hk : ntM k = some M) (h0 : M.2.2.2.2 = []) (h : CS own ix M.1 M.2.1 M.2.2.1 M.2.2.2.1 na) : CE own (ix, k, 1, na, ci) := by
  intro M' hM
  cases hk.symm.trans hM
  exact ⟨fun e => absurd e (by show ¬ 1 = 0; decide), fun _ => ⟨h0, h⟩, fun e => absurd e (by show ¬ 1 = 2; decide), fun e => absurd e (by show ¬ 3 ≤ 1; decide)⟩
theorem ce_2 {own : String} {ix k na ci : Nat} {M : MI} (hk : ntM k = some M) (h0 : M.2.2.2.2 = []) (h : CSN own ix M.1 M.2.1 M.2.2.1 M.2.2.2.1 na) : CE own (ix, k, 2, na, ci) := by
  intro M' hM
  cases hk.symm.trans hM
  exact ⟨fun e => absurd e (by show ¬ 2 = 0; decide), fun e => absurd e (by show ¬ 2 = 1; decide), fun _ => ⟨h0, h⟩, fun e => absurd e (by show ¬ 3 ≤ 2; decide)⟩
theorem ce_3 {own : String} {ix k na ci : Nat} {M : MI} (hk : ntM k = some M) (h0 : M.2.2.2.2 ≠ []) (h : CSW own ix M.1 M.2.1 M.2.2.1 M.2.2.2.1 M.2.2.2.2 na) : CE own (ix, k, 3, na, ci) := by
  intro M' hM
  cases hk.symm.trans hM
  exact ⟨fun e => absurd e (by show ¬ 3 = 0; decide), fun e => absurd e (by show ¬ 3 = 1; decide), fun e => absurd e (by show ¬ 3 = 2; decide), fun _ => ⟨h0, h⟩⟩
theorem ce_RX0_49 : CE RX0 (49, 44, 0, 1, 5) := ce_0 (M := mi_44) rfl rfl cV_X0_49 rfl rfl
theorem ce_RX0_53 : CE RX0 (53, 45, 0, 1, 5) := ce_0 (M := mi_45) rfl rfl cV_X0_53 rfl rfl
theorem ce_RX0_56 : CE RX0 (56, 18, 0, 2, 3) := ce_0 (M := mi_18) rfl rfl cV_X0_56 rfl rfl
theorem ce_RX0_62 : CE RX0 (62, 73, 0, 1, 6) := ce_0 (M := mi_73) rfl rfl cV_X0_62 rfl rfl
theorem ce_RX0_68 : CE RX0 (68, 3, 0, 0, 0) := ce_0 (M := mi_3) rfl rfl cV_X0_68 rfl rfl
theorem ce_RX0_72 : CE RX0 (72, 75, 0, 1, 6) := ce_0 (M := mi_75) rfl rfl cV_X0_72 rfl rfl
theorem ce_RX0_80 : CE RX0 (80, 364, 1, 1, 0) := ce_1 (M := mi_364) rfl rfl cS_X0_80
theorem ce_RX0_85 : CE RX0 (85, 4, 0, 1, 0) := ce_0 (M := mi_4) rfl rfl cV_X0_85 rfl rfl
theorem ce_RX0_88 : CE RX0 (88, 21, 0, 0, 3) := ce_0 (M := mi_21) rfl rfl cV_X0_88 rfl rfl
theorem ce_RX0_92 : CE RX0 (92, 177, 2, 2, 0) := ce_2 (M := mi_177) rfl rfl cN_X0_92
theorem ce_RX0_96 : CE RX0 (96, 7, 0, 4, 0) := ce_0 (M := mi_7) rfl rfl cV_X0_96 rfl rfl
theorem oc_0_ok : ∀ e ∈ ocl_0, CE RX0 e := (fm_c ce_RX0_49 (fm_c ce_RX0_53 (fm_c ce_RX0_56 (fm_c ce_RX0_62 (fm_c ce_RX0_68 (fm_c ce_RX0_72 (fm_c ce_RX0_80 (fm_c ce_RX0_85 (fm_c ce_RX0_88 (fm_c ce_RX0_92 (fm_c ce_RX0_96 fm_n)))))))))))
theorem ce_RX1_25 : CE RX1 (25, 43, 0, 1, 5) := ce_0 (M := mi_43) rfl rfl cV_X1_25 rfl rfl
theorem oc_1_ok : ∀ e ∈ ocl_1, CE RX1 e := (fm_c ce_RX1_25 fm_n)
theorem ce_RX2_34 : CE RX2 (34, 13, 0, 0, 2) := ce_0 (M := mi_13) rfl rfl cV_X2_34 rfl rfl
theorem ce_RX2_37 : CE RX2 (37, 14, 0, 3, 2) := ce_0 (M := mi_14) rfl rfl cV_X2_37 rfl rfl
theorem ce_RX2_41 : CE RX2 (41, 15, 0, 0, 2) := ce_0 (M := mi_15) rfl rfl cV_X2_41 rfl rfl
theorem oc_2_ok : ∀ e ∈ ocl_2, CE RX2 e := (fm_c ce_RX2_34 (fm_c ce_RX2_37 (fm_c ce_RX2_41 fm_n)))
theorem ce_RX3_29 : CE RX3 (29, 33, 1, 3, 0) := ce_1 (M := mi_33) rfl rfl cS_X3_29
theorem ce_RX3_42 : CE RX3 (42, 52, 0, 1, 5) := ce_0 (M := mi_52) rfl rfl cV_X3_42 rfl rfl
theorem ce_RX3_46 : CE RX3 (46, 53, 0, 1, 5) := ce_0 (M := mi_53) rfl rfl cV_X3_46 rfl rfl
theorem ce_RX3_49 : CE RX3 (49, 18, 0, 2, 3) := ce_0 (M := mi_18) rfl rfl cV_X3_49 rfl rfl
theorem ce_RX3_56 : CE RX3 (56, 60, 0, 1, 5) := ce_0 (M := mi_60) rfl rfl cV_X3_56 rfl rfl
theorem ce_RX3_59 : CE RX3 (59, 61, 0, 1, 5) := ce_0 (M := mi_61) rfl rfl cV_X3_59 rfl rfl
theorem oc_3_ok : ∀ e ∈ ocl_3, CE RX3 e := (fm_c ce_RX3_29 (fm_c ce_RX3_42 (fm_c ce_RX3_46 (fm_c ce_RX3_49 (fm_c ce_RX3_56 (fm_c ce_RX3_59 fm_n))))))
theorem ce_RX4_9 : CE RX4 (9, 44, 0, 1, 5) := ce_0 (M := mi_44) rfl rfl cV_X4_9 rfl rfl
theorem ce_RX4_15 : CE RX4 (15, 45, 0, 1, 5) := ce_0 (M := mi_45) rfl rfl cV_X4_15 rfl rfl
theorem ce_RX4_18 : CE RX4 (18, 23, 1, 6, 0) := ce_1 (M := mi_23) rfl rfl cS_X4_18
theorem ce_RX4_28 : CE RX4 (28, 46, 0, 1, 5) := ce_0 (M := mi_46) rfl rfl cV_X4_28 rfl rfl
theorem ce_RX4_31 : CE RX4 (31, 25, 1, 1, 0) := ce_1 (M := mi_25) rfl rfl cS_X4_31
theorem ce_RX4_35 : CE RX4 (35, 47, 0, 1, 5) := ce_0 (M := mi_47) rfl rfl cV_X4_35 rfl rfl
theorem ce_RX4_38 : CE RX4 (38, 24, 1, 4, 0) := ce_1 (M := mi_24) rfl rfl cS_X4_38
theorem ce_RX4_42 : CE RX4 (42, 28, 1, 2, 0) := ce_1 (M := mi_28) rfl rfl cS_X4_42
theorem ce_RX4_46 : CE RX4 (46, 29, 1, 3, 0) := ce_1 (M := mi_29) rfl rfl cS_X4_46
theorem ce_RX4_50 : CE RX4 (50, 30, 1, 6, 0) := ce_1 (M := mi_30) rfl rfl cS_X4_50
theorem ce_RX4_54 : CE RX4 (54, 32, 1, 5, 0) := ce_1 (M := mi_32) rfl rfl cS_X4_54
theorem ce_RX4_58 : CE RX4 (58, 31, 1, 2, 0) := ce_1 (M := mi_31) rfl rfl cS_X4_58
theorem ce_RX4_71 : CE RX4 (71, 34, 1, 4, 0) := ce_1 (M := mi_34) rfl rfl cS_X4_71
theorem oc_4_ok : ∀ e ∈ ocl_4, CE RX4 e := (fm_c ce_RX4_9 (fm_c ce_RX4_15 (fm_c ce_RX4_18 (fm_c ce_RX4_28 (fm_c ce_RX4_31 (fm_c ce_RX4_35 (fm_c ce_RX4_38 (fm_c ce_RX4_42 (fm_c ce_RX4_46 (fm_c ce_RX4_50 (fm_c ce_RX4_54 (fm_c ce_RX4_58 (fm_c ce_RX4_71 fm_n)))))))))))))
theorem ce_RX5_30 : CE RX5 (30, 42, 0, 0, 5) := ce_0 (M := mi_42) rfl rfl cV_X5_30 rfl rfl
theorem ce_RX5_35 : CE RX5 (35, 12, 0, 1, 2) := ce_0 (M := mi_12) rfl rfl cV_X5_35 rfl rfl
theorem ce_RX5_43 : CE RX5 (43, 16, 0, 1, 2) := ce_0 (M := mi_16) rfl rfl cV_X5_43 rfl rfl
theorem ce_RX5_47 : CE RX5 (47, 13, 0, 0, 2) := ce_0 (M := mi_13) rfl rfl cV_X5_47 rfl rfl
theorem ce_RX5_50 : CE RX5 (50, 36, 0, 0, 4) := ce_0 (M := mi_36) rfl rfl cV_X5_50 rfl rfl
theorem ce_RX5_54 : CE RX5 (54, 37, 0, 0, 4) := ce_0 (M := mi_37) rfl rfl cV_X5_54 rfl rfl
theorem ce_RX5_60 : CE RX5 (60, 27, 1, 1, 0) := ce_1 (M := mi_27) rfl rfl cS_X5_60
theorem ce_RX5_66 : CE RX5 (66, 17, 0, 1, 3) := ce_0 (M := mi_17) rfl rfl cV_X5_66 rfl rfl
theorem ce_RX5_71 : CE RX5 (71, 41, 0, 2, 4) := ce_0 (M := mi_41) rfl rfl cV_X5_71 rfl rfl
theorem ce_RX5_75 : CE RX5 (75, 40, 0, 1, 4) := ce_0 (M := mi_40) rfl rfl cV_X5_75 rfl rfl
theorem ce_RX5_79 : CE RX5 (79, 48, 0, 3, 5) := ce_0 (M := mi_48) rfl rfl cV_X5_79 rfl rfl
theorem ce_RX5_88 : CE RX5 (88, 38, 0, 0, 4) := ce_0 (M := mi_38) rfl rfl cV_X5_88 rfl rfl
theorem ce_RX5_96 : CE RX5 (96, 39, 0, 0, 4) := ce_0 (M := mi_39) rfl rfl cV_X5_96 rfl rfl
theorem ce_RX5_104 : CE RX5 (104, 55, 0, 3, 5) := ce_0 (M := mi_55) rfl rfl cV_X5_104 rfl rfl
theorem ce_RX5_107 : CE RX5 (107, 63, 0, 3, 5) := ce_0 (M := mi_63) rfl rfl cV_X5_107 rfl rfl
theorem ce_RX5_110 : CE RX5 (110, 18, 0, 2, 3) := ce_0 (M := mi_18) rfl rfl cV_X5_110 rfl rfl
theorem oc_5_ok : ∀ e ∈ ocl_5, CE RX5 e := (fm_c ce_RX5_30 (fm_c ce_RX5_35 (fm_c ce_RX5_43 (fm_c ce_RX5_47 (fm_c ce_RX5_50 (fm_c ce_RX5_54 (fm_c ce_RX5_60 (fm_c ce_RX5_66 (fm_c ce_RX5_71 (fm_c ce_RX5_75 (fm_c ce_RX5_79 (fm_c ce_RX5_88 (fm_c ce_RX5_96 (fm_c ce_RX5_104 (fm_c ce_RX5_107 (fm_c ce_RX5_110 fm_n))))))))))))))))
theorem oc_6_ok : ∀ e ∈ ocl_6, CE RX6 e := fm_n
theorem ce_RX7_27 : CE RX7 (27, 67, 0, 1, 6) := ce_0 (M := mi_67) rfl rfl cV_X7_27 rfl rfl
theorem ce_RX7_37 : CE RX7 (37, 19, 0, 1, 3) := ce_0 (M := mi_19) rfl rfl cV_X7_37 rfl rfl
theorem ce_RX7_41 : CE RX7 (41, 20, 0, 1, 3) := ce_0 (M := mi_20) rfl rfl cV_X7_41 rfl rfl
theorem ce_RX7_44 : CE RX7 (44, 70, 1, 2, 0) := ce_1 (M := mi_70) rfl rfl cS_X7_44
theorem ce_RX7_48 : CE RX7 (48, 69, 0, 3, 6) := ce_0 (M := mi_69) rfl rfl cV_X7_48 rfl rfl
theorem ce_RX7_52 : CE RX7 (52, 68, 0, 2, 6) := ce_0 (M := mi_68) rfl rfl cV_X7_52 rfl rfl
theorem ce_RX7_61 : CE RX7 (61, 30, 1, 6, 0) := ce_1 (M := mi_30) rfl rfl cS_X7_61
theorem ce_RX7_67 : CE RX7 (67, 33, 1, 3, 0) := ce_1 (M := mi_33) rfl rfl cS_X7_67
theorem ce_RX7_71 : CE RX7 (71, 18, 0, 2, 3) := ce_0 (M := mi_18) rfl rfl cV_X7_71 rfl rfl
theorem ce_RX7_74 : CE RX7 (74, 177, 2, 2, 0) := ce_2 (M := mi_177) rfl rfl cN_X7_74
theorem ce_RX7_78 : CE RX7 (78, 21, 0, 0, 3) := ce_0 (M := mi_21) rfl rfl cV_X7_78 rfl rfl
theorem ce_RX7_87 : CE RX7 (87, 72, 0, 0, 6) := ce_0 (M := mi_72) rfl rfl cV_X7_87 rfl rfl
theorem ce_RX7_91 : CE RX7 (91, 32, 1, 5, 0) := ce_1 (M := mi_32) rfl rfl cS_X7_91
theorem ce_RX7_95 : CE RX7 (95, 74, 0, 1, 6) := ce_0 (M := mi_74) rfl rfl cV_X7_95 rfl rfl
theorem ce_RX7_99 : CE RX7 (99, 73, 0, 1, 6) := ce_0 (M := mi_73) rfl rfl cV_X7_99 rfl rfl
theorem ce_RX7_103 : CE RX7 (103, 71, 0, 0, 6) := ce_0 (M := mi_71) rfl rfl cV_X7_103 rfl rfl
theorem ce_RX7_106 : CE RX7 (106, 365, 1, 1, 0) := ce_1 (M := mi_365) rfl rfl cS_X7_106
theorem ce_RX7_112 : CE RX7 (112, 78, 0, 1, 6) := ce_0 (M := mi_78) rfl rfl cV_X7_112 rfl rfl
theorem ce_RX7_115 : CE RX7 (115, 77, 0, 2, 6) := ce_0 (M := mi_77) rfl rfl cV_X7_115 rfl rfl
theorem oc_7_ok : ∀ e ∈ ocl_7, CE RX7 e := (fm_c ce_RX7_27 (fm_c ce_RX7_37 (fm_c ce_RX7_41 (fm_c ce_RX7_44 (fm_c ce_RX7_48 (fm_c ce_RX7_52 (fm_c ce_RX7_61 (fm_c ce_RX7_67 (fm_c ce_RX7_71 (fm_c ce_RX7_74 (fm_c ce_RX7_78 (fm_c ce_RX7_87 (fm_c ce_RX7_91 (fm_c ce_RX7_95 (fm_c ce_RX7_99 (fm_c ce_RX7_103 (fm_c ce_RX7_106 (fm_c ce_RX7_112 (fm_c ce_RX7_115 fm_n)))))))))))))))))))
theorem ce_RX8_30 : CE RX8 (30, 73, 0, 1, 6) := ce_0 (M := mi_73) rfl rfl cV_X8_30 rfl rfl
theorem ce_RX8_36 : CE RX8 (36, 74, 0, 1, 6) := ce_0 (M := mi_74) rfl rfl cV_X8_36 rfl rfl
theorem ce_RX8_40 : CE RX8 (40, 71, 0, 0, 6) := ce_0 (M := mi_71) rfl rfl cV_X8_40 rfl rfl
theorem ce_RX8_44 : CE RX8 (44, 83, 0, 3, 7) := ce_0 (M := mi_83) rfl rfl cV_X8_44 rfl rfl
theorem ce_RX8_48 : CE RX8 (48, 177, 2, 2, 0) := ce_2 (M := mi_177) rfl rfl cN_X8_48
theorem ce_RX8_52 : CE RX8 (52, 366, 1, 1, 0) := ce_1 (M := mi_366) rfl rfl cS_X8_52
theorem ce_RX8_60 : CE RX8 (60, 85, 0, 2, 7) := ce_0 (M := mi_85) rfl rfl cV_X8_60 rfl rfl
theorem ce_RX8_64 : CE RX8 (64, 86, 0, 1, 7) := ce_0 (M := mi_86) rfl rfl cV_X8_64 rfl rfl
theorem ce_RX8_67 : CE RX8 (67, 88, 0, 1, 7) := ce_0 (M := mi_88) rfl rfl cV_X8_67 rfl rfl
theorem ce_RX8_76 : CE RX8 (76, 87, 0, 2, 7) := ce_0 (M := mi_87) rfl rfl cV_X8_76 rfl rfl
theorem oc_8_ok : ∀ e ∈ ocl_8, CE RX8 e := (fm_c ce_RX8_30 (fm_c ce_RX8_36 (fm_c ce_RX8_40 (fm_c ce_RX8_44 (fm_c ce_RX8_48 (fm_c ce_RX8_52 (fm_c ce_RX8_60 (fm_c ce_RX8_64 (fm_c ce_RX8_67 (fm_c ce_RX8_76 fm_n))))))))))
theorem ce_RX9_42 : CE RX9 (42, 90, 0, 2, 8) := ce_0 (M := mi_90) rfl rfl cV_X9_42 rfl rfl
theorem ce_RX9_46 : CE RX9 (46, 24, 1, 4, 0) := ce_1 (M := mi_24) rfl rfl cS_X9_46
theorem ce_RX9_58 : CE RX9 (58, 94, 0, 1, 8) := ce_0 (M := mi_94) rfl rfl cV_X9_58 rfl rfl
theorem ce_RX9_61 : CE RX9 (61, 364, 1, 1, 0) := ce_1 (M := mi_364) rfl rfl cS_X9_61
theorem ce_RX9_71 : CE RX9 (71, 92, 0, 1, 8) := ce_0 (M := mi_92) rfl rfl cV_X9_71 rfl rfl
theorem ce_RX9_77 : CE RX9 (77, 25, 1, 1, 0) := ce_1 (M := mi_25) rfl rfl cS_X9_77
theorem ce_RX9_81 : CE RX9 (81, 96, 0, 1, 8) := ce_0 (M := mi_96) rfl rfl cV_X9_81 rfl rfl
theorem ce_RX9_85 : CE RX9 (85, 100, 0, 2, 8) := ce_0 (M := mi_100) rfl rfl cV_X9_85 rfl rfl
theorem ce_RX9_89 : CE RX9 (89, 101, 0, 1, 8) := ce_0 (M := mi_101) rfl rfl cV_X9_89 rfl rfl
theorem ce_RX9_93 : CE RX9 (93, 97, 0, 1, 8) := ce_0 (M := mi_97) rfl rfl cV_X9_93 rfl rfl
theorem ce_RX9_96 : CE RX9 (96, 98, 0, 1, 8) := ce_0 (M := mi_98) rfl rfl cV_X9_96 rfl rfl
theorem ce_RX9_100 : CE RX9 (100, 99, 0, 4, 8) := ce_0 (M := mi_99) rfl rfl cV_X9_100 rfl rfl
theorem ce_RX9_107 : CE RX9 (107, 102, 0, 2, 8) := ce_0 (M := mi_102) rfl rfl cV_X9_107 rfl rfl
theorem ce_RX9_110 : CE RX9 (110, 103, 0, 1, 8) := ce_0 (M := mi_103) rfl rfl cV_X9_110 rfl rfl
theorem oc_9_ok : ∀ e ∈ ocl_9, CE RX9 e := (fm_c ce_RX9_42 (fm_c ce_RX9_46 (fm_c ce_RX9_58 (fm_c ce_RX9_61 (fm_c ce_RX9_71 (fm_c ce_RX9_77 (fm_c ce_RX9_81 (fm_c ce_RX9_85 (fm_c ce_RX9_89 (fm_c ce_RX9_93 (fm_c ce_RX9_96 (fm_c ce_RX9_100 (fm_c ce_RX9_107 (fm_c ce_RX9_110 fm_n))))))))))))))
theorem ce_RX10_23 : CE RX10 (23, 52, 0, 1, 5) := ce_0 (M := mi_52) rfl rfl cV_X10_23 rfl rfl
theorem ce_RX10_29 : CE RX10 (29, 53, 0, 1, 5) := ce_0 (M := mi_53) rfl rfl cV_X10_29 rfl rfl
theorem ce_RX10_32 : CE RX10 (32, 18, 0, 2, 3) := ce_0 (M := mi_18) rfl rfl cV_X10_32 rfl rfl
theorem ce_RX10_38 : CE RX10 (38, 60, 0, 1, 5) := ce_0 (M := mi_60) rfl rfl cV_X10_38 rfl rfl
theorem ce_RX10_41 : CE RX10 (41, 61, 0, 1, 5) := ce_0 (M := mi_61) rfl rfl cV_X10_41 rfl rfl
theorem ce_RX10_44 : CE RX10 (44, 73, 0, 1, 6) := ce_0 (M := mi_73) rfl rfl cV_X10_44 rfl rfl
theorem ce_RX10_54 : CE RX10 (54, 19, 0, 1, 3) := ce_0 (M := mi_19) rfl rfl cV_X10_54 rfl rfl
theorem ce_RX10_57 : CE RX10 (57, 20, 0, 1, 3) := ce_0 (M := mi_20) rfl rfl cV_X10_57 rfl rfl
theorem ce_RX10_60 : CE RX10 (60, 177, 2, 2, 0) := ce_2 (M := mi_177) rfl rfl cN_X10_60
theorem ce_RX10_64 : CE RX10 (64, 104, 0, 1, 9) := ce_0 (M := mi_104) rfl rfl cV_X10_64 rfl rfl
theorem ce_RX10_67 : CE RX10 (67, 54, 0, 1, 5) := ce_0 (M := mi_54) rfl rfl cV_X10_67 rfl rfl
theorem ce_RX10_70 : CE RX10 (70, 106, 0, 2, 9) := ce_0 (M := mi_106) rfl rfl cV_X10_70 rfl rfl
theorem ce_RX10_77 : CE RX10 (77, 107, 0, 1, 9) := ce_0 (M := mi_107) rfl rfl cV_X10_77 rfl rfl
theorem ce_RX10_80 : CE RX10 (80, 108, 0, 1, 9) := ce_0 (M := mi_108) rfl rfl cV_X10_80 rfl rfl
theorem ce_RX10_83 : CE RX10 (83, 366, 1, 1, 0) := ce_1 (M := mi_366) rfl rfl cS_X10_83
theorem ce_RX10_89 : CE RX10 (89, 21, 0, 0, 3) := ce_0 (M := mi_21) rfl rfl cV_X10_89 rfl rfl
theorem ce_RX10_95 : CE RX10 (95, 111, 0, 1, 9) := ce_0 (M := mi_111) rfl rfl cV_X10_95 rfl rfl
theorem ce_RX10_101 : CE RX10 (101, 105, 0, 1, 9) := ce_0 (M := mi_105) rfl rfl cV_X10_101 rfl rfl
theorem ce_RX10_104 : CE RX10 (104, 62, 0, 1, 5) := ce_0 (M := mi_62) rfl rfl cV_X10_104 rfl rfl
theorem ce_RX10_107 : CE RX10 (107, 113, 0, 1, 9) := ce_0 (M := mi_113) rfl rfl cV_X10_107 rfl rfl
theorem oc_10_ok : ∀ e ∈ ocl_10, CE RX10 e := (fm_c ce_RX10_23 (fm_c ce_RX10_29 (fm_c ce_RX10_32 (fm_c ce_RX10_38 (fm_c ce_RX10_41 (fm_c ce_RX10_44 (fm_c ce_RX10_54 (fm_c ce_RX10_57 (fm_c ce_RX10_60 (fm_c ce_RX10_64 (fm_c ce_RX10_67 (fm_c ce_RX10_70 (fm_c ce_RX10_77 (fm_c ce_RX10_80 (fm_c ce_RX10_83 (fm_c ce_RX10_89 (fm_c ce_RX10_95 (fm_c ce_RX10_101 (fm_c ce_RX10_104 (fm_c ce_RX10_107 fm_n))))))))))))))))))))
theorem ce_RX11_119 : CE RX11 (119, 11, 0, 1, 2) := ce_0 (M := mi_11) rfl rfl cV_X11_119 rfl rfl
theorem ce_RX11_130 : CE RX11 (130, 35, 0, 1, 4) := ce_0 (M := mi_35) rfl rfl cV_X11_130 rfl rfl
theorem ce_RX11_142 : CE RX11 (142, 8, 0, 0, 1) := ce_0 (M := mi_8) rfl rfl cV_X11_142 rfl rfl
theorem ce_RX11_145 : CE RX11 (145, 42, 0, 0, 5) := ce_0 (M := mi_42) rfl rfl cV_X11_145 rfl rfl
theorem ce_RX11_146 : CE RX11 (146, 180, 0, 1, 10) := ce_0 (M := mi_180) rfl rfl cV_X11_146 rfl rfl
theorem ce_RX11_155 : CE RX11 (155, 174, 0, 0, 10) := ce_0 (M := mi_174) rfl rfl cV_X11_155 rfl rfl
theorem ce_RX11_158 : CE RX11 (158, 175, 1, 2, 0) := ce_1 (M := mi_175) rfl rfl cS_X11_158
theorem ce_RX11_162 : CE RX11 (162, 44, 0, 1, 5) := ce_0 (M := mi_44) rfl rfl cV_X11_162 rfl rfl
theorem ce_RX11_165 : CE RX11 (165, 45, 0, 1, 5) := ce_0 (M := mi_45) rfl rfl cV_X11_165 rfl rfl
theorem ce_RX11_168 : CE RX11 (168, 25, 1, 1, 0) := ce_1 (M := mi_25) rfl rfl cS_X11_168
theorem ce_RX11_179 : CE RX11 (179, 26, 1, 1, 0) := ce_1 (M := mi_26) rfl rfl cS_X11_179
theorem ce_RX11_182 : CE RX11 (182, 19, 0, 1, 3) := ce_0 (M := mi_19) rfl rfl cV_X11_182 rfl rfl
theorem ce_RX11_185 : CE RX11 (185, 20, 0, 1, 3) := ce_0 (M := mi_20) rfl rfl cV_X11_185 rfl rfl
theorem ce_RX11_188 : CE RX11 (188, 18, 0, 2, 3) := ce_0 (M := mi_18) rfl rfl cV_X11_188 rfl rfl
theorem ce_RX11_196 : CE RX11 (196, 66, 0, 0, 6) := ce_0 (M := mi_66) rfl rfl cV_X11_196 rfl rfl
theorem ce_RX11_199 : CE RX11 (199, 73, 0, 1, 6) := ce_0 (M := mi_73) rfl rfl cV_X11_199 rfl rfl
theorem ce_RX11_203 : CE RX11 (203, 177, 1, 2, 0) := ce_1 (M := mi_177) rfl rfl cS_X11_203
theorem ce_RX11_207 : CE RX11 (207, 76, 0, 0, 6) := ce_0 (M := mi_76) rfl rfl cV_X11_207 rfl rfl
theorem ce_RX11_211 : CE RX11 (211, 77, 0, 2, 6) := ce_0 (M := mi_77) rfl rfl cV_X11_211 rfl rfl
theorem ce_RX11_214 : CE RX11 (214, 79, 0, 0, 6) := ce_0 (M := mi_79) rfl rfl cV_X11_214 rfl rfl
theorem ce_RX11_218 : CE RX11 (218, 78, 0, 1, 6) := ce_0 (M := mi_78) rfl rfl cV_X11_218 rfl rfl
theorem ce_RX11_221 : CE RX11 (221, 75, 0, 1, 6) := ce_0 (M := mi_75) rfl rfl cV_X11_221 rfl rfl
theorem ce_RX11_224 : CE RX11 (224, 176, 1, 3, 0) := ce_1 (M := mi_176) rfl rfl cS_X11_224
theorem ce_RX11_228 : CE RX11 (228, 95, 0, 0, 8) := ce_0 (M := mi_95) rfl rfl cV_X11_228 rfl rfl
theorem ce_RX11_229 : CE RX11 (229, 90, 0, 2, 8) := ce_0 (M := mi_90) rfl rfl cV_X11_229 rfl rfl
theorem ce_RX11_232 : CE RX11 (232, 91, 0, 1, 8) := ce_0 (M := mi_91) rfl rfl cV_X11_232 rfl rfl
theorem ce_RX11_235 : CE RX11 (235, 92, 0, 1, 8) := ce_0 (M := mi_92) rfl rfl cV_X11_235 rfl rfl
theorem ce_RX11_238 : CE RX11 (238, 93, 0, 0, 8) := ce_0 (M := mi_93) rfl rfl cV_X11_238 rfl rfl
theorem ce_RX11_241 : CE RX11 (241, 1, 0, 0, 0) := ce_0 (M := mi_1) rfl rfl cV_X11_241 rfl rfl
theorem ce_RX11_244 : CE RX11 (244, 2, 0, 0, 0) := ce_0 (M := mi_2) rfl rfl cV_X11_244 rfl rfl
theorem ce_RX11_247 : CE RX11 (247, 5, 0, 0, 0) := ce_0 (M := mi_5) rfl rfl cV_X11_247 rfl rfl
theorem ce_RX11_250 : CE RX11 (250, 6, 0, 1, 0) := ce_0 (M := mi_6) rfl rfl cV_X11_250 rfl rfl
theorem ce_RX11_253 : CE RX11 (253, 81, 0, 0, 7) := ce_0 (M := mi_81) rfl rfl cV_X11_253 rfl rfl
theorem ce_RX11_256 : CE RX11 (256, 82, 0, 1, 7) := ce_0 (M := mi_82) rfl rfl cV_X11_256 rfl rfl
theorem ce_RX11_259 : CE RX11 (259, 84, 0, 0, 7) := ce_0 (M := mi_84) rfl rfl cV_X11_259 rfl rfl
theorem ce_RX11_265 : CE RX11 (265, 104, 0, 1, 9) := ce_0 (M := mi_104) rfl rfl cV_X11_265 rfl rfl
theorem ce_RX11_268 : CE RX11 (268, 54, 0, 1, 5) := ce_0 (M := mi_54) rfl rfl cV_X11_268 rfl rfl
theorem ce_RX11_271 : CE RX11 (271, 107, 0, 1, 9) := ce_0 (M := mi_107) rfl rfl cV_X11_271 rfl rfl
theorem ce_RX11_274 : CE RX11 (274, 21, 0, 0, 3) := ce_0 (M := mi_21) rfl rfl cV_X11_274 rfl rfl
theorem ce_RX11_277 : CE RX11 (277, 108, 0, 1, 9) := ce_0 (M := mi_108) rfl rfl cV_X11_277 rfl rfl
theorem ce_RX11_282 : CE RX11 (282, 109, 0, 1, 9) := ce_0 (M := mi_109) rfl rfl cV_X11_282 rfl rfl
theorem ce_RX11_285 : CE RX11 (285, 110, 0, 0, 9) := ce_0 (M := mi_110) rfl rfl cV_X11_285 rfl rfl
theorem ce_RX11_288 : CE RX11 (288, 111, 0, 1, 9) := ce_0 (M := mi_111) rfl rfl cV_X11_288 rfl rfl
theorem ce_RX11_292 : CE RX11 (292, 112, 0, 0, 9) := ce_0 (M := mi_112) rfl rfl cV_X11_292 rfl rfl
theorem ce_RX11_298 : CE RX11 (298, 105, 0, 1, 9) := ce_0 (M := mi_105) rfl rfl cV_X11_298 rfl rfl
theorem ce_RX11_301 : CE RX11 (301, 113, 0, 1, 9) := ce_0 (M := mi_113) rfl rfl cV_X11_301 rfl rfl
theorem ce_RX11_304 : CE RX11 (304, 114, 0, 0, 9) := ce_0 (M := mi_114) rfl rfl cV_X11_304 rfl rfl
theorem ce_RX11_307 : CE RX11 (307, 181, 0, 3, 10) := ce_0 (M := mi_181) rfl rfl cV_X11_307 rfl rfl
theorem ce_RX11_316 : CE RX11 (316, 9, 0, 1, 1) := ce_0 (M := mi_9) rfl rfl cV_X11_316 rfl rfl
theorem ce_RX11_319 : CE RX11 (319, 55, 0, 3, 5) := ce_0 (M := mi_55) rfl rfl cV_X11_319 rfl rfl
theorem ce_RX11_322 : CE RX11 (322, 58, 0, 1, 5) := ce_0 (M := mi_58) rfl rfl cV_X11_322 rfl rfl
theorem ce_RX11_325 : CE RX11 (325, 56, 0, 3, 5) := ce_0 (M := mi_56) rfl rfl cV_X11_325 rfl rfl
theorem ce_RX11_328 : CE RX11 (328, 57, 0, 2, 5) := ce_0 (M := mi_57) rfl rfl cV_X11_328 rfl rfl
theorem ce_RX11_331 : CE RX11 (331, 43, 0, 1, 5) := ce_0 (M := mi_43) rfl rfl cV_X11_331 rfl rfl
theorem ce_RX11_334 : CE RX11 (334, 49, 0, 3, 5) := ce_0 (M := mi_49) rfl rfl cV_X11_334 rfl rfl
theorem ce_RX11_337 : CE RX11 (337, 179, 0, 0, 10) := ce_0 (M := mi_179) rfl rfl cV_X11_337 rfl rfl
theorem ce_RX11_342 : CE RX11 (342, 48, 0, 3, 5) := ce_0 (M := mi_48) rfl rfl cV_X11_342 rfl rfl
theorem ce_RX11_345 : CE RX11 (345, 50, 0, 1, 5) := ce_0 (M := mi_50) rfl rfl cV_X11_345 rfl rfl
theorem ce_RX11_351 : CE RX11 (351, 10, 0, 1, 1) := ce_0 (M := mi_10) rfl rfl cV_X11_351 rfl rfl
theorem ce_RX11_354 : CE RX11 (354, 178, 0, 1, 10) := ce_0 (M := mi_178) rfl rfl cV_X11_354 rfl rfl
theorem ce_RX11_366 : CE RX11 (366, 27, 1, 1, 0) := ce_1 (M := mi_27) rfl rfl cS_X11_366
theorem ce_RX11_370 : CE RX11 (370, 17, 0, 1, 3) := ce_0 (M := mi_17) rfl rfl cV_X11_370 rfl rfl
theorem ce_RX11_373 : CE RX11 (373, 22, 0, 1, 3) := ce_0 (M := mi_22) rfl rfl cV_X11_373 rfl rfl
theorem ce_RX11_378 : CE RX11 (378, 65, 0, 0, 6) := ce_0 (M := mi_65) rfl rfl cV_X11_378 rfl rfl
theorem ce_RX11_381 : CE RX11 (381, 89, 0, 0, 8) := ce_0 (M := mi_89) rfl rfl cV_X11_381 rfl rfl
theorem ce_RX11_382 : CE RX11 (382, 0, 0, 0, 0) := ce_0 (M := mi_0) rfl rfl cV_X11_382 rfl rfl
theorem ce_RX11_383 : CE RX11 (383, 80, 0, 0, 7) := ce_0 (M := mi_80) rfl rfl cV_X11_383 rfl rfl
theorem ce_RX11_384 : CE RX11 (384, 59, 0, 2, 5) := ce_0 (M := mi_59) rfl rfl cV_X11_384 rfl rfl
theorem ce_RX11_388 : CE RX11 (388, 64, 0, 2, 5) := ce_0 (M := mi_64) rfl rfl cV_X11_388 rfl rfl
theorem ce_RX11_391 : CE RX11 (391, 51, 0, 2, 5) := ce_0 (M := mi_51) rfl rfl cV_X11_391 rfl rfl
theorem oc_11_ok : ∀ e ∈ ocl_11, CE RX11 e := (fm_c ce_RX11_119 (fm_c ce_RX11_130 (fm_c ce_RX11_142 (fm_c ce_RX11_145 (fm_c ce_RX11_146 (fm_c ce_RX11_155 (fm_c ce_RX11_158 (fm_c ce_RX11_162 (fm_c ce_RX11_165 (fm_c ce_RX11_168 (fm_c ce_RX11_179 (fm_c ce_RX11_182 (fm_c ce_RX11_185 (fm_c ce_RX11_188 (fm_c ce_RX11_196 (fm_c ce_RX11_199 (fm_c ce_RX11_203 (fm_c ce_RX11_207 (fm_c ce_RX11_211 (fm_c ce_RX11_214 (fm_c ce_RX11_218 (fm_c ce_RX11_221 (fm_c ce_RX11_224 (fm_c ce_RX11_228 (fm_c ce_RX11_229 (fm_c ce_RX11_232 (fm_c ce_RX11_235 (fm_c ce_RX11_238 (fm_c ce_RX11_241 (fm_c ce_RX11_244 (fm_c ce_RX11_247 (fm_c ce_RX11_250 (fm_c ce_RX11_253 (fm_c ce_RX11_256 (fm_c ce_RX11_259 (fm_c ce_RX11_265 (fm_c ce_RX11_268 (fm_c ce_RX11_271 (fm_c ce_RX11_274 (fm_c ce_RX11_277 (fm_c ce_RX11_282 (fm_c ce_RX11_285 (fm_c ce_RX11_288 (fm_c ce_RX11_292 (fm_c ce_RX11_298 (fm_c ce_RX11_301 (fm_c ce_RX11_304 (fm_c ce_RX11_307 (fm_c ce_RX11_316 (fm_c ce_RX11_319 (fm_c ce_RX11_322 (fm_c ce_RX11_325 (fm_c ce_RX11_328 (fm_c ce_RX11_331 (fm_c ce_RX11_334 (fm_c ce_RX11_337 (fm_c ce_RX11_342 (fm_c ce_RX11_345 (fm_c ce_RX11_351 (fm_c ce_RX11_354 (fm_c ce_RX11_366 (fm_c ce_RX11_370 (fm_c ce_RX11_373 (fm_c ce_RX11_378 (fm_c ce_RX11_381 (fm_c ce_RX11_382 (fm_c ce_RX11_383 (fm_c ce_RX11_384 (fm_c ce_RX11_388 (fm_c ce_RX11_391 fm_n))))))))))))))))))))))))))))))))))))))))))))))))))))))))))))))))))))))
theorem ce_RX12_86 : CE RX12 (86, 183, 0, 2, 11) := ce_0 (M := mi_183) rfl rfl cV_X12_86 rfl rfl
theorem ce_RX12_102 : CE RX12 (102, 189, 0, 1, 11) := ce_0 (M := mi_189) rfl rfl cV_X12_102 rfl rfl
theorem ce_RX12_112 : CE RX12 (112, 190, 1, 1, 0) := ce_1 (M := mi_190) rfl rfl cS_X12_112
theorem ce_RX12_119 : CE RX12 (119, 191, 1, 1, 0) := ce_1 (M := mi_191) rfl rfl cS_X12_119
theorem ce_RX12_131 : CE RX12 (131, 192, 0, 0, 11) := ce_0 (M := mi_192) rfl rfl cV_X12_131 rfl rfl
theorem ce_RX12_144 : CE RX12 (144, 193, 0, 1, 11) := ce_0 (M := mi_193) rfl rfl cV_X12_144 rfl rfl
theorem ce_RX12_148 : CE RX12 (148, 182, 1, 3, 0) := ce_1 (M := mi_182) rfl rfl cS_X12_148
theorem ce_RX12_152 : CE RX12 (152, 196, 0, 2, 11) := ce_0 (M := mi_196) rfl rfl cV_X12_152 rfl rfl
theorem ce_RX12_156 : CE RX12 (156, 194, 0, 0, 11) := ce_0 (M := mi_194) rfl rfl cV_X12_156 rfl rfl
theorem ce_RX12_161 : CE RX12 (161, 195, 0, 1, 11) := ce_0 (M := mi_195) rfl rfl cV_X12_161 rfl rfl
theorem ce_RX12_165 : CE RX12 (165, 197, 0, 2, 11) := ce_0 (M := mi_197) rfl rfl cV_X12_165 rfl rfl
theorem ce_RX12_168 : CE RX12 (168, 213, 1, 1, 0) := ce_1 (M := mi_213) rfl rfl cS_X12_168
theorem ce_RX12_172 : CE RX12 (172, 208, 1, 4, 0) := ce_1 (M := mi_208) rfl rfl cS_X12_172
theorem ce_RX12_178 : CE RX12 (178, 198, 0, 0, 11) := ce_0 (M := mi_198) rfl rfl cV_X12_178 rfl rfl
theorem ce_RX12_185 : CE RX12 (185, 199, 0, 1, 11) := ce_0 (M := mi_199) rfl rfl cV_X12_185 rfl rfl
theorem ce_RX12_189 : CE RX12 (189, 200, 0, 1, 11) := ce_0 (M := mi_200) rfl rfl cV_X12_189 rfl rfl
theorem ce_RX12_198 : CE RX12 (198, 214, 0, 0, 11) := ce_0 (M := mi_214) rfl rfl cV_X12_198 rfl rfl
theorem ce_RX12_204 : CE RX12 (204, 202, 1, 6, 0) := ce_1 (M := mi_202) rfl rfl cS_X12_204
theorem ce_RX12_208 : CE RX12 (208, 204, 1, 2, 0) := ce_1 (M := mi_204) rfl rfl cS_X12_208
theorem ce_RX12_212 : CE RX12 (212, 205, 1, 6, 0) := ce_1 (M := mi_205) rfl rfl cS_X12_212
theorem ce_RX12_216 : CE RX12 (216, 206, 1, 5, 0) := ce_1 (M := mi_206) rfl rfl cS_X12_216
theorem ce_RX12_220 : CE RX12 (220, 207, 1, 4, 0) := ce_1 (M := mi_207) rfl rfl cS_X12_220
theorem ce_RX12_223 : CE RX12 (223, 203, 1, 1, 0) := ce_1 (M := mi_203) rfl rfl cS_X12_223
theorem ce_RX12_227 : CE RX12 (227, 210, 1, 2, 0) := ce_1 (M := mi_210) rfl rfl cS_X12_227
theorem ce_RX12_231 : CE RX12 (231, 209, 1, 3, 0) := ce_1 (M := mi_209) rfl rfl cS_X12_231
theorem ce_RX12_235 : CE RX12 (235, 211, 1, 1, 0) := ce_1 (M := mi_211) rfl rfl cS_X12_235
theorem ce_RX12_238 : CE RX12 (238, 212, 1, 1, 0) := ce_1 (M := mi_212) rfl rfl cS_X12_238
theorem ce_RX12_244 : CE RX12 (244, 219, 0, 1, 11) := ce_0 (M := mi_219) rfl rfl cV_X12_244 rfl rfl
theorem ce_RX12_247 : CE RX12 (247, 184, 0, 0, 11) := ce_0 (M := mi_184) rfl rfl cV_X12_247 rfl rfl
theorem ce_RX12_251 : CE RX12 (251, 225, 0, 1, 11) := ce_0 (M := mi_225) rfl rfl cV_X12_251 rfl rfl
theorem ce_RX12_254 : CE RX12 (254, 226, 0, 1, 11) := ce_0 (M := mi_226) rfl rfl cV_X12_254 rfl rfl
theorem ce_RX12_257 : CE RX12 (257, 215, 0, 2, 11) := ce_0 (M := mi_215) rfl rfl cV_X12_257 rfl rfl
theorem ce_RX12_260 : CE RX12 (260, 233, 0, 0, 11) := ce_0 (M := mi_233) rfl rfl cV_X12_260 rfl rfl
theorem ce_RX12_263 : CE RX12 (263, 235, 0, 3, 11) := ce_0 (M := mi_235) rfl rfl cV_X12_263 rfl rfl
theorem ce_RX12_275 : CE RX12 (275, 238, 0, 5, 11) := ce_0 (M := mi_238) rfl rfl cV_X12_275 rfl rfl
theorem ce_RX12_279 : CE RX12 (279, 239, 0, 0, 11) := ce_0 (M := mi_239) rfl rfl cV_X12_279 rfl rfl
theorem ce_RX12_282 : CE RX12 (282, 217, 1, 2, 0) := ce_1 (M := mi_217) rfl rfl cS_X12_282
theorem ce_RX12_286 : CE RX12 (286, 216, 0, 0, 11) := ce_0 (M := mi_216) rfl rfl cV_X12_286 rfl rfl
theorem ce_RX12_290 : CE RX12 (290, 244, 0, 1, 11) := ce_0 (M := mi_244) rfl rfl cV_X12_290 rfl rfl
theorem ce_RX12_293 : CE RX12 (293, 249, 0, 2, 11) := ce_0 (M := mi_249) rfl rfl cV_X12_293 rfl rfl
theorem ce_RX12_297 : CE RX12 (297, 250, 0, 4, 11) := ce_0 (M := mi_250) rfl rfl cV_X12_297 rfl rfl
theorem ce_RX12_301 : CE RX12 (301, 252, 0, 1, 11) := ce_0 (M := mi_252) rfl rfl cV_X12_301 rfl rfl
theorem ce_RX12_304 : CE RX12 (304, 251, 0, 0, 11) := ce_0 (M := mi_251) rfl rfl cV_X12_304 rfl rfl
theorem ce_RX12_307 : CE RX12 (307, 255, 0, 0, 11) := ce_0 (M := mi_255) rfl rfl cV_X12_307 rfl rfl
theorem ce_RX12_310 : CE RX12 (310, 257, 0, 1, 11) := ce_0 (M := mi_257) rfl rfl cV_X12_310 rfl rfl
theorem ce_RX12_313 : CE RX12 (313, 218, 1, 1, 0) := ce_1 (M := mi_218) rfl rfl cS_X12_313
theorem ce_RX12_316 : CE RX12 (316, 240, 0, 1, 11) := ce_0 (M := mi_240) rfl rfl cV_X12_316 rfl rfl
theorem ce_RX12_319 : CE RX12 (319, 259, 0, 1, 11) := ce_0 (M := mi_259) rfl rfl cV_X12_319 rfl rfl
theorem ce_RX12_323 : CE RX12 (323, 262, 0, 4, 11) := ce_0 (M := mi_262) rfl rfl cV_X12_323 rfl rfl
theorem ce_RX12_327 : CE RX12 (327, 263, 0, 0, 11) := ce_0 (M := mi_263) rfl rfl cV_X12_327 rfl rfl
theorem ce_RX12_329 : CE RX12 (329, 266, 0, 4, 11) := ce_0 (M := mi_266) rfl rfl cV_X12_329 rfl rfl
theorem ce_RX12_332 : CE RX12 (332, 267, 0, 0, 11) := ce_0 (M := mi_267) rfl rfl cV_X12_332 rfl rfl
theorem ce_RX12_334 : CE RX12 (334, 270, 1, 1, 0) := ce_1 (M := mi_270) rfl rfl cS_X12_334
theorem ce_RX12_340 : CE RX12 (340, 271, 0, 1, 11) := ce_0 (M := mi_271) rfl rfl cV_X12_340 rfl rfl
theorem ce_RX12_343 : CE RX12 (343, 272, 0, 2, 11) := ce_0 (M := mi_272) rfl rfl cV_X12_343 rfl rfl
theorem ce_RX12_347 : CE RX12 (347, 274, 0, 2, 11) := ce_0 (M := mi_274) rfl rfl cV_X12_347 rfl rfl
theorem ce_RX12_349 : CE RX12 (349, 275, 0, 3, 11) := ce_0 (M := mi_275) rfl rfl cV_X12_349 rfl rfl
theorem ce_RX12_353 : CE RX12 (353, 276, 0, 1, 11) := ce_0 (M := mi_276) rfl rfl cV_X12_353 rfl rfl
theorem ce_RX12_356 : CE RX12 (356, 227, 0, 1, 11) := ce_0 (M := mi_227) rfl rfl cV_X12_356 rfl rfl
theorem ce_RX12_359 : CE RX12 (359, 277, 0, 1, 11) := ce_0 (M := mi_277) rfl rfl cV_X12_359 rfl rfl
theorem ce_RX12_362 : CE RX12 (362, 284, 0, 1, 11) := ce_0 (M := mi_284) rfl rfl cV_X12_362 rfl rfl
theorem ce_RX12_365 : CE RX12 (365, 287, 0, 2, 11) := ce_0 (M := mi_287) rfl rfl cV_X12_365 rfl rfl
theorem ce_RX12_367 : CE RX12 (367, 289, 0, 1, 11) := ce_0 (M := mi_289) rfl rfl cV_X12_367 rfl rfl
theorem ce_RX12_373 : CE RX12 (373, 292, 0, 2, 11) := ce_0 (M := mi_292) rfl rfl cV_X12_373 rfl rfl
theorem ce_RX12_376 : CE RX12 (376, 293, 0, 2, 11) := ce_0 (M := mi_293) rfl rfl cV_X12_376 rfl rfl
theorem ce_RX12_379 : CE RX12 (379, 294, 0, 2, 11) := ce_0 (M := mi_294) rfl rfl cV_X12_379 rfl rfl
theorem ce_RX12_382 : CE RX12 (382, 297, 0, 1, 11) := ce_0 (M := mi_297) rfl rfl cV_X12_382 rfl rfl
theorem ce_RX12_385 : CE RX12 (385, 299, 0, 0, 11) := ce_0 (M := mi_299) rfl rfl cV_X12_385 rfl rfl
theorem ce_RX12_388 : CE RX12 (388, 306, 0, 2, 11) := ce_0 (M := mi_306) rfl rfl cV_X12_388 rfl rfl
theorem ce_RX12_391 : CE RX12 (391, 305, 0, 0, 11) := ce_0 (M := mi_305) rfl rfl cV_X12_391 rfl rfl
theorem ce_RX12_394 : CE RX12 (394, 304, 0, 0, 11) := ce_0 (M := mi_304) rfl rfl cV_X12_394 rfl rfl
theorem ce_RX12_397 : CE RX12 (397, 298, 0, 1, 11) := ce_0 (M := mi_298) rfl rfl cV_X12_397 rfl rfl
theorem oc_12_ok : ∀ e ∈ ocl_12, CE RX12 e := (fm_c ce_RX12_86 (fm_c ce_RX12_102 (fm_c ce_RX12_112 (fm_c ce_RX12_119 (fm_c ce_RX12_131 (fm_c ce_RX12_144 (fm_c ce_RX12_148 (fm_c ce_RX12_152 (fm_c ce_RX12_156 (fm_c ce_RX12_161 (fm_c ce_RX12_165 (fm_c ce_RX12_168 (fm_c ce_RX12_172 (fm_c ce_RX12_178 (fm_c ce_RX12_185 (fm_c ce_RX12_189 (fm_c ce_RX12_198 (fm_c ce_RX12_204 (fm_c ce_RX12_208 (fm_c ce_RX12_212 (fm_c ce_RX12_216 (fm_c ce_RX12_220 (fm_c ce_RX12_223 (fm_c ce_RX12_227 (fm_c ce_RX12_231 (fm_c ce_RX12_235 (fm_c ce_RX12_238 (fm_c ce_RX12_244 (fm_c ce_RX12_247 (fm_c ce_RX12_251 (fm_c ce_RX12_254 (fm_c ce_RX12_257 (fm_c ce_RX12_260 (fm_c ce_RX12_263 (fm_c ce_RX12_275 (fm_c ce_RX12_279 (fm_c ce_RX12_282 (fm_c ce_RX12_286 (fm_c ce_RX12_290 (fm_c ce_RX12_293 (fm_c ce_RX12_297 (fm_c ce_RX12_301 (fm_c ce_RX12_304 (fm_c ce_RX12_307 (fm_c ce_RX12_310 (fm_c ce_RX12_313 (fm_c ce_RX12_316 (fm_c ce_RX12_319 (fm_c ce_RX12_323 (fm_c ce_RX12_327 (fm_c ce_RX12_329 (fm_c ce_RX12_332 (fm_c ce_RX12_334 (fm_c ce_RX12_340 (fm_c ce_RX12_343 (fm_c ce_RX12_347 (fm_c ce_RX12_349 (fm_c ce_RX12_353 (fm_c ce_RX12_356 (fm_c ce_RX12_359 (fm_c ce_RX12_362 (fm_c ce_RX12_365 (fm_c ce_RX12_367 (fm_c ce_RX12_373 (fm_c ce_RX12_376 (fm_c ce_RX12_379 (fm_c ce_RX12_382 (fm_c ce_RX12_385 (fm_c ce_RX12_388 (fm_c ce_RX12_391 (fm_c ce_RX12_394 (fm_c ce_RX12_397 fm_n))))))))))))))))))))))))))))))))))))))))))))))))))))))))))))))))))))))))
theorem ce_RL_7 : CE RL (7, 116, 0, 1, 10) := ce_0 (M := mi_116) rfl rfl cV_L_7 rfl rfl
theorem ce_RL_17 : CE RL (17, 121, 0, 1, 10) := ce_0 (M := mi_121) rfl rfl cV_L_17 rfl rfl
theorem ce_RL_22 : CE RL (22, 122, 0, 1, 10) := ce_0 (M := mi_122) rfl rfl cV_L_22 rfl rfl
theorem ce_RL_25 : CE RL (25, 123, 0, 0, 10) := ce_0 (M := mi_123) rfl rfl cV_L_25 rfl rfl
theorem ce_RL_29 : CE RL (29, 124, 0, 0, 10) := ce_0 (M := mi_124) rfl rfl cV_L_29 rfl rfl
theorem ce_RL_32 : CE RL (32, 126, 0, 1, 10) := ce_0 (M := mi_126) rfl rfl cV_L_32 rfl rfl
theorem ce_RL_35 : CE RL (35, 127, 0, 1, 10) := ce_0 (M := mi_127) rfl rfl cV_L_35 rfl rfl
theorem ce_RL_38 : CE RL (38, 128, 0, 2, 10) := ce_0 (M := mi_128) rfl rfl cV_L_38 rfl rfl
theorem ce_RL_42 : CE RL (42, 129, 0, 0, 10) := ce_0 (M := mi_129) rfl rfl cV_L_42 rfl rfl
theorem ce_RL_46 : CE RL (46, 130, 0, 2, 10) := ce_0 (M := mi_130) rfl rfl cV_L_46 rfl rfl
theorem ce_RL_50 : CE RL (50, 131, 0, 1, 10) := ce_0 (M := mi_131) rfl rfl cV_L_50 rfl rfl
theorem ce_RL_54 : CE RL (54, 132, 0, 0, 10) := ce_0 (M := mi_132) rfl rfl cV_L_54 rfl rfl
theorem ce_RL_57 : CE RL (57, 133, 0, 2, 10) := ce_0 (M := mi_133) rfl rfl cV_L_57 rfl rfl
theorem ce_RL_60 : CE RL (60, 134, 0, 0, 10) := ce_0 (M := mi_134) rfl rfl cV_L_60 rfl rfl
theorem ce_RL_63 : CE RL (63, 135, 0, 1, 10) := ce_0 (M := mi_135) rfl rfl cV_L_63 rfl rfl
theorem ce_RL_66 : CE RL (66, 136, 0, 1, 10) := ce_0 (M := mi_136) rfl rfl cV_L_66 rfl rfl
theorem ce_RL_69 : CE RL (69, 137, 0, 2, 10) := ce_0 (M := mi_137) rfl rfl cV_L_69 rfl rfl
theorem ce_RL_72 : CE RL (72, 138, 0, 1, 10) := ce_0 (M := mi_138) rfl rfl cV_L_72 rfl rfl
theorem ce_RL_75 : CE RL (75, 139, 0, 1, 10) := ce_0 (M := mi_139) rfl rfl cV_L_75 rfl rfl
theorem ce_RL_78 : CE RL (78, 140, 0, 0, 10) := ce_0 (M := mi_140) rfl rfl cV_L_78 rfl rfl
theorem ce_RL_81 : CE RL (81, 141, 0, 0, 10) := ce_0 (M := mi_141) rfl rfl cV_L_81 rfl rfl
theorem ce_RL_84 : CE RL (84, 142, 0, 0, 10) := ce_0 (M := mi_142) rfl rfl cV_L_84 rfl rfl
theorem ce_RL_87 : CE RL (87, 143, 0, 0, 10) := ce_0 (M := mi_143) rfl rfl cV_L_87 rfl rfl
theorem ce_RL_90 : CE RL (90, 144, 0, 1, 10) := ce_0 (M := mi_144) rfl rfl cV_L_90 rfl rfl
theorem ce_RL_93 : CE RL (93, 145, 0, 0, 10) := ce_0 (M := mi_145) rfl rfl cV_L_93 rfl rfl
theorem ce_RL_96 : CE RL (96, 146, 0, 1, 10) := ce_0 (M := mi_146) rfl rfl cV_L_96 rfl rfl
theorem ce_RL_99 : CE RL (99, 147, 0, 0, 10) := ce_0 (M := mi_147) rfl rfl cV_L_99 rfl rfl
theorem ce_RL_102 : CE RL (102, 149, 0, 1, 10) := ce_0 (M := mi_149) rfl rfl cV_L_102 rfl rfl
theorem ce_RL_105 : CE RL (105, 150, 0, 1, 10) := ce_0 (M := mi_150) rfl rfl cV_L_105 rfl rfl
theorem ce_RL_108 : CE RL (108, 151, 0, 1, 10) := ce_0 (M := mi_151) rfl rfl cV_L_108 rfl rfl
theorem ce_RL_111 : CE RL (111, 152, 0, 0, 10) := ce_0 (M := mi_152) rfl rfl cV_L_111 rfl rfl
theorem ce_RL_114 : CE RL (114, 153, 0, 1, 10) := ce_0 (M := mi_153) rfl rfl cV_L_114 rfl rfl
theorem ce_RL_117 : CE RL (117, 154, 0, 0, 10) := ce_0 (M := mi_154) rfl rfl cV_L_117 rfl rfl
theorem ce_RL_120 : CE RL (120, 155, 0, 0, 10) := ce_0 (M := mi_155) rfl rfl cV_L_120 rfl rfl
theorem ce_RL_123 : CE RL (123, 156, 0, 0, 10) := ce_0 (M := mi_156) rfl rfl cV_L_123 rfl rfl
theorem ce_RL_126 : CE RL (126, 158, 0, 1, 10) := ce_0 (M := mi_158) rfl rfl cV_L_126 rfl rfl
theorem ce_RL_129 : CE RL (129, 159, 0, 0, 10) := ce_0 (M := mi_159) rfl rfl cV_L_129 rfl rfl
theorem ce_RL_132 : CE RL (132, 160, 0, 0, 10) := ce_0 (M := mi_160) rfl rfl cV_L_132 rfl rfl
theorem ce_RL_135 : CE RL (135, 161, 0, 1, 10) := ce_0 (M := mi_161) rfl rfl cV_L_135 rfl rfl
theorem ce_RL_138 : CE RL (138, 162, 0, 1, 10) := ce_0 (M := mi_162) rfl rfl cV_L_138 rfl rfl
theorem ce_RL_141 : CE RL (141, 163, 0, 2, 10) := ce_0 (M := mi_163) rfl rfl cV_L_141 rfl rfl
theorem ce_RL_144 : CE RL (144, 164, 0, 1, 10) := ce_0 (M := mi_164) rfl rfl cV_L_144 rfl rfl
theorem ce_RL_147 : CE RL (147, 165, 0, 2, 10) := ce_0 (M := mi_165) rfl rfl cV_L_147 rfl rfl
theorem ce_RL_150 : CE RL (150, 166, 0, 2, 10) := ce_0 (M := mi_166) rfl rfl cV_L_150 rfl rfl
theorem ce_RL_153 : CE RL (153, 167, 0, 3, 10) := ce_0 (M := mi_167) rfl rfl cV_L_153 rfl rfl
theorem ce_RL_157 : CE RL (157, 168, 0, 3, 10) := ce_0 (M := mi_168) rfl rfl cV_L_157 rfl rfl
theorem ce_RL_160 : CE RL (160, 169, 0, 1, 10) := ce_0 (M := mi_169) rfl rfl cV_L_160 rfl rfl
theorem ce_RL_163 : CE RL (163, 170, 0, 0, 10) := ce_0 (M := mi_170) rfl rfl cV_L_163 rfl rfl
theorem ce_RL_166 : CE RL (166, 172, 0, 1, 10) := ce_0 (M := mi_172) rfl rfl cV_L_166 rfl rfl
theorem ce_RL_169 : CE RL (169, 173, 0, 1, 10) := ce_0 (M := mi_173) rfl rfl cV_L_169 rfl rfl
theorem oc_13_ok : ∀ e ∈ ocl_13, CE RL e := (fm_c ce_RL_7 (fm_c ce_RL_17 (fm_c ce_RL_22 (fm_c ce_RL_25 (fm_c ce_RL_29 (fm_c ce_RL_32 (fm_c ce_RL_35 (fm_c ce_RL_38 (fm_c ce_RL_42 (fm_c ce_RL_46 (fm_c ce_RL_50 (fm_c ce_RL_54 (fm_c ce_RL_57 (fm_c ce_RL_60 (fm_c ce_RL_63 (fm_c ce_RL_66 (fm_c ce_RL_69 (fm_c ce_RL_72 (fm_c ce_RL_75 (fm_c ce_RL_78 (fm_c ce_RL_81 (fm_c ce_RL_84 (fm_c ce_RL_87 (fm_c ce_RL_90 (fm_c ce_RL_93 (fm_c ce_RL_96 (fm_c ce_RL_99 (fm_c ce_RL_102 (fm_c ce_RL_105 (fm_c ce_RL_108 (fm_c ce_RL_111 (fm_c ce_RL_114 (fm_c ce_RL_117 (fm_c ce_RL_120 (fm_c ce_RL_123 (fm_c ce_RL_126 (fm_c ce_RL_129 (fm_c ce_RL_132 (fm_c ce_RL_135 (fm_c ce_RL_138 (fm_c ce_RL_141 (fm_c ce_RL_144 (fm_c ce_RL_147 (fm_c ce_RL_150 (fm_c ce_RL_153 (fm_c ce_RL_157 (fm_c ce_RL_160 (fm_c ce_RL_163 (fm_c ce_RL_166 (fm_c ce_RL_169 fm_n))))))))))))))))))))))))))))))))))))))))))))))))))
theorem oc_14_ok : ∀ e ∈ ocl_14, CE RJ6 e := fm_n
theorem ce_RJ13_311 : CE RJ13 (311, 363, 1, 1, 0) := ce_1 (M := mi_363) rfl rfl cS_J13_311
theorem oc_15_ok : ∀ e ∈ ocl_15, CE RJ13 e := (fm_c ce_RJ13_311 fm_n)
theorem oc_ok : ∀ (o : Nat) (own : String), ON[o]? = some own → ∀ e ∈ (ot o).2.2.2, CE own e := by
  intro o own h
  match o, h with
  | 0, h => cases h; exact oc_0_ok
  | 1, h => cases h; exact oc_1_ok
  | 2, h => cases h; exact oc_2_ok
  | 3, h => cases h; exact oc_3_ok
  | 4, h => cases h; exact oc_4_ok
  | 5, h => cases h; exact oc_5_ok
  | 6, h => cases h; exact oc_6_ok
  | 7, h => cases h; exact oc_7_ok
  | 8, h => cases h; exact oc_8_ok
  | 9, h => cases h; exact oc_9_ok
  | 10, h => cases h; exact oc_10_ok
  | 11, h => cases h; exact oc_11_ok
  | 12, h => cases h; exact oc_12_ok
  | 13, h => cases h; exact oc_13_ok
  | 14, h => cases h; exact oc_14_ok
  | 15, h => cases h; exact oc_15_ok
  | n + 16, h => exact absurd h (by rw [show ON[n + 16]? = none from rfl]; exact fun q => nomatch q)
def TQ (M : MI) (pc : Nat) (E : String) : Prop := ∃ (ik is ic : Nat) (text : String) (names : List String), Tf M.1.cls ik is ic E text names ∧ names.length ≤ 5 ∧ decode M.2.1 pc = .ok (.new ik, 3) ∧ decode M.2.1 (pc + 3) = .ok (.dup, 1) ∧
  ((decode M.2.1 (pc + 4) = .ok (.ldc is, 2) ∧ decode M.2.1 (pc + 6) = .ok (.invokespecial ic, 3) ∧ decode M.2.1 (pc + 9) = .ok (.athrow, 1)) ∨
   (decode M.2.1 (pc + 4) = .ok (.ldc_w is, 3) ∧ decode M.2.1 (pc + 7) = .ok (.invokespecial ic, 3) ∧ decode M.2.1 (pc + 10) = .ok (.athrow, 1)))
def TE (e : (Nat × Nat) × String) : Prop := ∀ M, ntM e.1.1 = some M → TQ M e.1.2 e.2
theorem te_of {k pc : Nat} {E : String} {M : MI} (hk : ntM k = some M) (h : TQ M pc E) : TE ((k, pc), E) := by
  intro M' hM
  cases hk.symm.trans hM
  exact h
def HQ (M : MI) (pc : Nat) (E : String) (h j : Nat) : Prop := E ∈ cas ∧ ∃ (pre : List ExceptionTableEntry) (x : ExceptionTableEntry) (suf : List ExceptionTableEntry), tableOf M.2.2.2.2 = pre ++ x :: suf ∧ (∀ z ∈ pre, covers z pc = false ∨ (z.catchType ≠ 0 ∧ ∃ nm : String, Cond.classLink M.1.cls z.catchType nm ∈ Big ∧ (E, nm) ∈ ncs)) ∧ covers x pc = true ∧ x.catchType ≠ 0 ∧ Cond.classLink M.1.cls x.catchType E ∈ Big ∧ j < M.2.2.1 ∧ ((∃ j4 : Fin 4, (j4 : Nat) = j ∧ h = x.handlerPc + 1 ∧ decode M.2.1 x.handlerPc = .ok (.astore_n j4, 1)) ∨ (h = x.handlerPc + 2 ∧ decode M.2.1 x.handlerPc = .ok (.astore j, 2)))
def HE (e : (Nat × Nat × String) × Nat × Nat) : Prop := ∀ M, ntM e.1.1 = some M → HQ M e.1.2.1 e.1.2.2 e.2.1 e.2.2
theorem he_of {k pc h j : Nat} {E : String} {M : MI} (hk : ntM k = some M) (q : HQ M pc E h j) : HE ((k, pc, E), h, j) := by
  intro M' hM
  cases hk.symm.trans hM
  exact q
theorem te_116_15 : TE ((116, 15), "java/lang/IndexOutOfBoundsException") := te_of (M := mi_116) rfl ⟨123, 125, 127, _, _, tf_X11_123_125, by decide, by decide +kernel, by decide +kernel, Or.inl ⟨by decide +kernel, by decide +kernel, by decide +kernel⟩⟩
theorem te_116_74 : TE ((116, 74), "java/lang/IllegalArgumentException") := te_of (M := mi_116) rfl ⟨137, 139, 141, _, _, tf_X11_137_139, by decide, by decide +kernel, by decide +kernel, Or.inl ⟨by decide +kernel, by decide +kernel, by decide +kernel⟩⟩
theorem te_163_34 : TE ((163, 34), "java/lang/IllegalStateException") := te_of (M := mi_163) rfl ⟨311, 313, 315, _, _, tf_X11_311_313, by decide, by decide +kernel, by decide +kernel, Or.inr ⟨by decide +kernel, by decide +kernel, by decide +kernel⟩⟩
theorem te_168_41 : TE ((168, 41), "java/lang/IllegalArgumentException") := te_of (M := mi_168) rfl ⟨137, 340, 141, _, _, tf_X11_137_340, by decide, by decide +kernel, by decide +kernel, Or.inr ⟨by decide +kernel, by decide +kernel, by decide +kernel⟩⟩
theorem te_170_10 : TE ((170, 10), "java/lang/IllegalStateException") := te_of (M := mi_170) rfl ⟨311, 349, 315, _, _, tf_X11_311_349, by decide, by decide +kernel, by decide +kernel, Or.inr ⟨by decide +kernel, by decide +kernel, by decide +kernel⟩⟩
theorem te_173_16 : TE ((173, 16), "java/lang/IllegalStateException") := te_of (M := mi_173) rfl ⟨311, 358, 315, _, _, tf_X11_311_358, by decide, by decide +kernel, by decide +kernel, Or.inr ⟨by decide +kernel, by decide +kernel, by decide +kernel⟩⟩
theorem te_174_10 : TE ((174, 10), "java/lang/IllegalStateException") := te_of (M := mi_174) rfl ⟨311, 360, 315, _, _, tf_X11_311_360, by decide, by decide +kernel, by decide +kernel, Or.inr ⟨by decide +kernel, by decide +kernel, by decide +kernel⟩⟩
theorem te_175_9 : TE ((175, 9), "java/lang/IndexOutOfBoundsException") := te_of (M := mi_175) rfl ⟨123, 362, 127, _, _, tf_X11_123_362, by decide, by decide +kernel, by decide +kernel, Or.inr ⟨by decide +kernel, by decide +kernel, by decide +kernel⟩⟩
theorem te_176_10 : TE ((176, 10), "java/lang/IllegalArgumentException") := te_of (M := mi_176) rfl ⟨137, 364, 141, _, _, tf_X11_137_364, by decide, by decide +kernel, by decide +kernel, Or.inr ⟨by decide +kernel, by decide +kernel, by decide +kernel⟩⟩
theorem te_179_38 : TE ((179, 38), "java/lang/IllegalArgumentException") := te_of (M := mi_179) rfl ⟨137, 376, 141, _, _, tf_X11_137_376, by decide, by decide +kernel, by decide +kernel, Or.inr ⟨by decide +kernel, by decide +kernel, by decide +kernel⟩⟩
def ttl : List ((Nat × Nat) × String) := [((116, 15), "java/lang/IndexOutOfBoundsException"), ((116, 74), "java/lang/IllegalArgumentException"), ((163, 34), "java/lang/IllegalStateException"), ((168, 41), "java/lang/IllegalArgumentException"), ((170, 10), "java/lang/IllegalStateException"), ((173, 16), "java/lang/IllegalStateException"), ((174, 10), "java/lang/IllegalStateException"), ((175, 9), "java/lang/IndexOutOfBoundsException"), ((176, 10), "java/lang/IllegalArgumentException"), ((179, 38), "java/lang/IllegalArgumentException")]
theorem ttl_ok : ∀ e ∈ ttl, TE e := (fm_c te_116_15 (fm_c te_116_74 (fm_c te_163_34 (fm_c te_168_41 (fm_c te_170_10 (fm_c te_173_16 (fm_c te_174_10 (fm_c te_175_9 (fm_c te_176_10 (fm_c te_179_38 fm_n))))))))))
theorem he_313_4_0 : HE ((313, 4, "java/lang/IndexOutOfBoundsException"), 13, 3) := he_of (M := mi_313) rfl ⟨by decide, [], ⟨0, 9, 12, 13⟩, [⟨0, 9, 15, 15⟩], rfl, fm_n, rfl, by decide, w_1429, by decide, Or.inl ⟨3, rfl, rfl, by decide +kernel⟩⟩
theorem he_313_4_1 : HE ((313, 4, "java/lang/IllegalArgumentException"), 16, 3) := he_of (M := mi_313) rfl ⟨by decide, [⟨0, 9, 12, 13⟩], ⟨0, 9, 15, 15⟩, [], rfl, (fm_c (Or.inr ⟨by decide, "java/lang/IndexOutOfBoundsException", w_1429, by decide⟩) fm_n), rfl, by decide, w_1430, by decide, Or.inl ⟨3, rfl, rfl, by decide +kernel⟩⟩
theorem he_314_4_0 : HE ((314, 4, "java/lang/IllegalStateException"), 13, 3) := he_of (M := mi_314) rfl ⟨by decide, [], ⟨0, 9, 12, 20⟩, [⟨0, 9, 15, 13⟩], rfl, fm_n, rfl, by decide, w_1431, by decide, Or.inl ⟨3, rfl, rfl, by decide +kernel⟩⟩
theorem he_314_4_1 : HE ((314, 4, "java/lang/IndexOutOfBoundsException"), 16, 3) := he_of (M := mi_314) rfl ⟨by decide, [⟨0, 9, 12, 20⟩], ⟨0, 9, 15, 13⟩, [], rfl, (fm_c (Or.inr ⟨by decide, "java/lang/IllegalStateException", w_1431, by decide⟩) fm_n), rfl, by decide, w_1429, by decide, Or.inl ⟨3, rfl, rfl, by decide +kernel⟩⟩
theorem he_315_4_0 : HE ((315, 4, "java/lang/IllegalStateException"), 13, 3) := he_of (M := mi_315) rfl ⟨by decide, [], ⟨0, 9, 12, 20⟩, [⟨0, 9, 15, 13⟩], rfl, fm_n, rfl, by decide, w_1431, by decide, Or.inl ⟨3, rfl, rfl, by decide +kernel⟩⟩
theorem he_315_4_1 : HE ((315, 4, "java/lang/IndexOutOfBoundsException"), 16, 3) := he_of (M := mi_315) rfl ⟨by decide, [⟨0, 9, 12, 20⟩], ⟨0, 9, 15, 13⟩, [], rfl, (fm_c (Or.inr ⟨by decide, "java/lang/IllegalStateException", w_1431, by decide⟩) fm_n), rfl, by decide, w_1429, by decide, Or.inl ⟨3, rfl, rfl, by decide +kernel⟩⟩
theorem he_316_3_0 : HE ((316, 3, "java/lang/IllegalStateException"), 12, 2) := he_of (M := mi_316) rfl ⟨by decide, [], ⟨0, 8, 11, 20⟩, [], rfl, fm_n, rfl, by decide, w_1431, by decide, Or.inl ⟨2, rfl, rfl, by decide +kernel⟩⟩
theorem he_317_3_0 : HE ((317, 3, "java/lang/IllegalStateException"), 12, 2) := he_of (M := mi_317) rfl ⟨by decide, [], ⟨0, 8, 11, 20⟩, [], rfl, fm_n, rfl, by decide, w_1431, by decide, Or.inl ⟨2, rfl, rfl, by decide +kernel⟩⟩
theorem he_318_4_0 : HE ((318, 4, "java/lang/IllegalStateException"), 13, 3) := he_of (M := mi_318) rfl ⟨by decide, [], ⟨0, 9, 12, 20⟩, [⟨0, 9, 15, 13⟩], rfl, fm_n, rfl, by decide, w_1431, by decide, Or.inl ⟨3, rfl, rfl, by decide +kernel⟩⟩
theorem he_318_4_1 : HE ((318, 4, "java/lang/IndexOutOfBoundsException"), 16, 3) := he_of (M := mi_318) rfl ⟨by decide, [⟨0, 9, 12, 20⟩], ⟨0, 9, 15, 13⟩, [], rfl, (fm_c (Or.inr ⟨by decide, "java/lang/IllegalStateException", w_1431, by decide⟩) fm_n), rfl, by decide, w_1429, by decide, Or.inl ⟨3, rfl, rfl, by decide +kernel⟩⟩
theorem he_319_4_0 : HE ((319, 4, "java/lang/IllegalStateException"), 13, 3) := he_of (M := mi_319) rfl ⟨by decide, [], ⟨0, 9, 12, 20⟩, [⟨0, 9, 15, 13⟩], rfl, fm_n, rfl, by decide, w_1431, by decide, Or.inl ⟨3, rfl, rfl, by decide +kernel⟩⟩
theorem he_319_4_1 : HE ((319, 4, "java/lang/IndexOutOfBoundsException"), 16, 3) := he_of (M := mi_319) rfl ⟨by decide, [⟨0, 9, 12, 20⟩], ⟨0, 9, 15, 13⟩, [], rfl, (fm_c (Or.inr ⟨by decide, "java/lang/IllegalStateException", w_1431, by decide⟩) fm_n), rfl, by decide, w_1429, by decide, Or.inl ⟨3, rfl, rfl, by decide +kernel⟩⟩
theorem he_320_5_0 : HE ((320, 5, "java/lang/IllegalStateException"), 15, 4) := he_of (M := mi_320) rfl ⟨by decide, [], ⟨0, 10, 13, 20⟩, [], rfl, fm_n, rfl, by decide, w_1431, by decide, Or.inr ⟨rfl, by decide +kernel⟩⟩
theorem he_321_3_0 : HE ((321, 3, "java/lang/IllegalStateException"), 11, 2) := he_of (M := mi_321) rfl ⟨by decide, [], ⟨0, 7, 10, 20⟩, [], rfl, fm_n, rfl, by decide, w_1431, by decide, Or.inl ⟨2, rfl, rfl, by decide +kernel⟩⟩
theorem he_322_5_0 : HE ((322, 5, "java/lang/IllegalStateException"), 22, 4) := he_of (M := mi_322) rfl ⟨by decide, [], ⟨0, 17, 20, 20⟩, [⟨0, 17, 24, 13⟩], rfl, fm_n, rfl, by decide, w_1431, by decide, Or.inr ⟨rfl, by decide +kernel⟩⟩
theorem he_322_5_1 : HE ((322, 5, "java/lang/IndexOutOfBoundsException"), 26, 4) := he_of (M := mi_322) rfl ⟨by decide, [⟨0, 17, 20, 20⟩], ⟨0, 17, 24, 13⟩, [], rfl, (fm_c (Or.inr ⟨by decide, "java/lang/IllegalStateException", w_1431, by decide⟩) fm_n), rfl, by decide, w_1429, by decide, Or.inr ⟨rfl, by decide +kernel⟩⟩
theorem he_323_4_0 : HE ((323, 4, "java/lang/IllegalStateException"), 12, 3) := he_of (M := mi_323) rfl ⟨by decide, [], ⟨0, 8, 11, 20⟩, [⟨0, 8, 14, 13⟩], rfl, fm_n, rfl, by decide, w_1431, by decide, Or.inl ⟨3, rfl, rfl, by decide +kernel⟩⟩
theorem he_323_4_1 : HE ((323, 4, "java/lang/IndexOutOfBoundsException"), 15, 3) := he_of (M := mi_323) rfl ⟨by decide, [⟨0, 8, 11, 20⟩], ⟨0, 8, 14, 13⟩, [], rfl, (fm_c (Or.inr ⟨by decide, "java/lang/IllegalStateException", w_1431, by decide⟩) fm_n), rfl, by decide, w_1429, by decide, Or.inl ⟨3, rfl, rfl, by decide +kernel⟩⟩
theorem he_324_3_0 : HE ((324, 3, "java/lang/IllegalStateException"), 11, 2) := he_of (M := mi_324) rfl ⟨by decide, [], ⟨0, 7, 10, 20⟩, [], rfl, fm_n, rfl, by decide, w_1431, by decide, Or.inl ⟨2, rfl, rfl, by decide +kernel⟩⟩
theorem he_325_5_0 : HE ((325, 5, "java/lang/IllegalStateException"), 15, 4) := he_of (M := mi_325) rfl ⟨by decide, [], ⟨0, 10, 13, 20⟩, [⟨0, 10, 17, 13⟩], rfl, fm_n, rfl, by decide, w_1431, by decide, Or.inr ⟨rfl, by decide +kernel⟩⟩
theorem he_325_5_1 : HE ((325, 5, "java/lang/IndexOutOfBoundsException"), 19, 4) := he_of (M := mi_325) rfl ⟨by decide, [⟨0, 10, 13, 20⟩], ⟨0, 10, 17, 13⟩, [], rfl, (fm_c (Or.inr ⟨by decide, "java/lang/IllegalStateException", w_1431, by decide⟩) fm_n), rfl, by decide, w_1429, by decide, Or.inr ⟨rfl, by decide +kernel⟩⟩
theorem he_326_3_0 : HE ((326, 3, "java/lang/IllegalStateException"), 12, 2) := he_of (M := mi_326) rfl ⟨by decide, [], ⟨0, 8, 11, 20⟩, [], rfl, fm_n, rfl, by decide, w_1431, by decide, Or.inl ⟨2, rfl, rfl, by decide +kernel⟩⟩
theorem he_327_4_0 : HE ((327, 4, "java/lang/IllegalStateException"), 13, 3) := he_of (M := mi_327) rfl ⟨by decide, [], ⟨0, 9, 12, 20⟩, [⟨0, 9, 15, 13⟩], rfl, fm_n, rfl, by decide, w_1431, by decide, Or.inl ⟨3, rfl, rfl, by decide +kernel⟩⟩
theorem he_327_4_1 : HE ((327, 4, "java/lang/IndexOutOfBoundsException"), 16, 3) := he_of (M := mi_327) rfl ⟨by decide, [⟨0, 9, 12, 20⟩], ⟨0, 9, 15, 13⟩, [], rfl, (fm_c (Or.inr ⟨by decide, "java/lang/IllegalStateException", w_1431, by decide⟩) fm_n), rfl, by decide, w_1429, by decide, Or.inl ⟨3, rfl, rfl, by decide +kernel⟩⟩
theorem he_328_4_0 : HE ((328, 4, "java/lang/IllegalStateException"), 12, 3) := he_of (M := mi_328) rfl ⟨by decide, [], ⟨0, 8, 11, 20⟩, [⟨0, 8, 14, 13⟩], rfl, fm_n, rfl, by decide, w_1431, by decide, Or.inl ⟨3, rfl, rfl, by decide +kernel⟩⟩
theorem he_328_4_1 : HE ((328, 4, "java/lang/IndexOutOfBoundsException"), 15, 3) := he_of (M := mi_328) rfl ⟨by decide, [⟨0, 8, 11, 20⟩], ⟨0, 8, 14, 13⟩, [], rfl, (fm_c (Or.inr ⟨by decide, "java/lang/IllegalStateException", w_1431, by decide⟩) fm_n), rfl, by decide, w_1429, by decide, Or.inl ⟨3, rfl, rfl, by decide +kernel⟩⟩
theorem he_329_5_0 : HE ((329, 5, "java/lang/IllegalStateException"), 15, 4) := he_of (M := mi_329) rfl ⟨by decide, [], ⟨0, 10, 13, 20⟩, [⟨0, 10, 17, 13⟩, ⟨0, 10, 21, 15⟩], rfl, fm_n, rfl, by decide, w_1431, by decide, Or.inr ⟨rfl, by decide +kernel⟩⟩
theorem he_329_5_1 : HE ((329, 5, "java/lang/IndexOutOfBoundsException"), 19, 4) := he_of (M := mi_329) rfl ⟨by decide, [⟨0, 10, 13, 20⟩], ⟨0, 10, 17, 13⟩, [⟨0, 10, 21, 15⟩], rfl, (fm_c (Or.inr ⟨by decide, "java/lang/IllegalStateException", w_1431, by decide⟩) fm_n), rfl, by decide, w_1429, by decide, Or.inr ⟨rfl, by decide +kernel⟩⟩
theorem he_329_5_2 : HE ((329, 5, "java/lang/IllegalArgumentException"), 23, 4) := he_of (M := mi_329) rfl ⟨by decide, [⟨0, 10, 13, 20⟩, ⟨0, 10, 17, 13⟩], ⟨0, 10, 21, 15⟩, [], rfl, (fm_c (Or.inr ⟨by decide, "java/lang/IllegalStateException", w_1431, by decide⟩) (fm_c (Or.inr ⟨by decide, "java/lang/IndexOutOfBoundsException", w_1429, by decide⟩) fm_n)), rfl, by decide, w_1430, by decide, Or.inr ⟨rfl, by decide +kernel⟩⟩
theorem he_330_4_0 : HE ((330, 4, "java/lang/IllegalStateException"), 13, 3) := he_of (M := mi_330) rfl ⟨by decide, [], ⟨0, 9, 12, 20⟩, [⟨0, 9, 15, 13⟩], rfl, fm_n, rfl, by decide, w_1431, by decide, Or.inl ⟨3, rfl, rfl, by decide +kernel⟩⟩
theorem he_330_4_1 : HE ((330, 4, "java/lang/IndexOutOfBoundsException"), 16, 3) := he_of (M := mi_330) rfl ⟨by decide, [⟨0, 9, 12, 20⟩], ⟨0, 9, 15, 13⟩, [], rfl, (fm_c (Or.inr ⟨by decide, "java/lang/IllegalStateException", w_1431, by decide⟩) fm_n), rfl, by decide, w_1429, by decide, Or.inl ⟨3, rfl, rfl, by decide +kernel⟩⟩
theorem he_331_4_0 : HE ((331, 4, "java/lang/IllegalStateException"), 13, 3) := he_of (M := mi_331) rfl ⟨by decide, [], ⟨0, 9, 12, 20⟩, [⟨0, 9, 15, 13⟩], rfl, fm_n, rfl, by decide, w_1431, by decide, Or.inl ⟨3, rfl, rfl, by decide +kernel⟩⟩
theorem he_331_4_1 : HE ((331, 4, "java/lang/IndexOutOfBoundsException"), 16, 3) := he_of (M := mi_331) rfl ⟨by decide, [⟨0, 9, 12, 20⟩], ⟨0, 9, 15, 13⟩, [], rfl, (fm_c (Or.inr ⟨by decide, "java/lang/IllegalStateException", w_1431, by decide⟩) fm_n), rfl, by decide, w_1429, by decide, Or.inl ⟨3, rfl, rfl, by decide +kernel⟩⟩
theorem he_332_3_0 : HE ((332, 3, "java/lang/IllegalStateException"), 12, 2) := he_of (M := mi_332) rfl ⟨by decide, [], ⟨0, 8, 11, 20⟩, [], rfl, fm_n, rfl, by decide, w_1431, by decide, Or.inl ⟨2, rfl, rfl, by decide +kernel⟩⟩
theorem he_333_3_0 : HE ((333, 3, "java/lang/IllegalStateException"), 12, 2) := he_of (M := mi_333) rfl ⟨by decide, [], ⟨0, 8, 11, 20⟩, [], rfl, fm_n, rfl, by decide, w_1431, by decide, Or.inl ⟨2, rfl, rfl, by decide +kernel⟩⟩
theorem he_334_3_0 : HE ((334, 3, "java/lang/IllegalStateException"), 12, 2) := he_of (M := mi_334) rfl ⟨by decide, [], ⟨0, 8, 11, 20⟩, [], rfl, fm_n, rfl, by decide, w_1431, by decide, Or.inl ⟨2, rfl, rfl, by decide +kernel⟩⟩
theorem he_335_3_0 : HE ((335, 3, "java/lang/IllegalStateException"), 12, 2) := he_of (M := mi_335) rfl ⟨by decide, [], ⟨0, 8, 11, 20⟩, [], rfl, fm_n, rfl, by decide, w_1431, by decide, Or.inl ⟨2, rfl, rfl, by decide +kernel⟩⟩
theorem he_336_4_0 : HE ((336, 4, "java/lang/IllegalStateException"), 13, 3) := he_of (M := mi_336) rfl ⟨by decide, [], ⟨0, 9, 12, 20⟩, [⟨0, 9, 15, 13⟩], rfl, fm_n, rfl, by decide, w_1431, by decide, Or.inl ⟨3, rfl, rfl, by decide +kernel⟩⟩
theorem he_336_4_1 : HE ((336, 4, "java/lang/IndexOutOfBoundsException"), 16, 3) := he_of (M := mi_336) rfl ⟨by decide, [⟨0, 9, 12, 20⟩], ⟨0, 9, 15, 13⟩, [], rfl, (fm_c (Or.inr ⟨by decide, "java/lang/IllegalStateException", w_1431, by decide⟩) fm_n), rfl, by decide, w_1429, by decide, Or.inl ⟨3, rfl, rfl, by decide +kernel⟩⟩
theorem he_337_3_0 : HE ((337, 3, "java/lang/IllegalStateException"), 12, 2) := he_of (M := mi_337) rfl ⟨by decide, [], ⟨0, 8, 11, 20⟩, [], rfl, fm_n, rfl, by decide, w_1431, by decide, Or.inl ⟨2, rfl, rfl, by decide +kernel⟩⟩
theorem he_338_4_0 : HE ((338, 4, "java/lang/IllegalStateException"), 13, 3) := he_of (M := mi_338) rfl ⟨by decide, [], ⟨0, 9, 12, 20⟩, [⟨0, 9, 15, 13⟩], rfl, fm_n, rfl, by decide, w_1431, by decide, Or.inl ⟨3, rfl, rfl, by decide +kernel⟩⟩
theorem he_338_4_1 : HE ((338, 4, "java/lang/IndexOutOfBoundsException"), 16, 3) := he_of (M := mi_338) rfl ⟨by decide, [⟨0, 9, 12, 20⟩], ⟨0, 9, 15, 13⟩, [], rfl, (fm_c (Or.inr ⟨by decide, "java/lang/IllegalStateException", w_1431, by decide⟩) fm_n), rfl, by decide, w_1429, by decide, Or.inl ⟨3, rfl, rfl, by decide +kernel⟩⟩
theorem he_339_3_0 : HE ((339, 3, "java/lang/IllegalStateException"), 12, 2) := he_of (M := mi_339) rfl ⟨by decide, [], ⟨0, 8, 11, 20⟩, [], rfl, fm_n, rfl, by decide, w_1431, by decide, Or.inl ⟨2, rfl, rfl, by decide +kernel⟩⟩
theorem he_340_4_0 : HE ((340, 4, "java/lang/IllegalStateException"), 13, 3) := he_of (M := mi_340) rfl ⟨by decide, [], ⟨0, 9, 12, 20⟩, [⟨0, 9, 15, 13⟩], rfl, fm_n, rfl, by decide, w_1431, by decide, Or.inl ⟨3, rfl, rfl, by decide +kernel⟩⟩
theorem he_340_4_1 : HE ((340, 4, "java/lang/IndexOutOfBoundsException"), 16, 3) := he_of (M := mi_340) rfl ⟨by decide, [⟨0, 9, 12, 20⟩], ⟨0, 9, 15, 13⟩, [], rfl, (fm_c (Or.inr ⟨by decide, "java/lang/IllegalStateException", w_1431, by decide⟩) fm_n), rfl, by decide, w_1429, by decide, Or.inl ⟨3, rfl, rfl, by decide +kernel⟩⟩
theorem he_341_4_0 : HE ((341, 4, "java/lang/IllegalStateException"), 13, 3) := he_of (M := mi_341) rfl ⟨by decide, [], ⟨0, 9, 12, 20⟩, [⟨0, 9, 15, 13⟩], rfl, fm_n, rfl, by decide, w_1431, by decide, Or.inl ⟨3, rfl, rfl, by decide +kernel⟩⟩
theorem he_341_4_1 : HE ((341, 4, "java/lang/IndexOutOfBoundsException"), 16, 3) := he_of (M := mi_341) rfl ⟨by decide, [⟨0, 9, 12, 20⟩], ⟨0, 9, 15, 13⟩, [], rfl, (fm_c (Or.inr ⟨by decide, "java/lang/IllegalStateException", w_1431, by decide⟩) fm_n), rfl, by decide, w_1429, by decide, Or.inl ⟨3, rfl, rfl, by decide +kernel⟩⟩
theorem he_342_4_0 : HE ((342, 4, "java/lang/IllegalStateException"), 12, 3) := he_of (M := mi_342) rfl ⟨by decide, [], ⟨0, 8, 11, 20⟩, [⟨0, 8, 14, 13⟩], rfl, fm_n, rfl, by decide, w_1431, by decide, Or.inl ⟨3, rfl, rfl, by decide +kernel⟩⟩
theorem he_342_4_1 : HE ((342, 4, "java/lang/IndexOutOfBoundsException"), 15, 3) := he_of (M := mi_342) rfl ⟨by decide, [⟨0, 8, 11, 20⟩], ⟨0, 8, 14, 13⟩, [], rfl, (fm_c (Or.inr ⟨by decide, "java/lang/IllegalStateException", w_1431, by decide⟩) fm_n), rfl, by decide, w_1429, by decide, Or.inl ⟨3, rfl, rfl, by decide +kernel⟩⟩
theorem he_343_3_0 : HE ((343, 3, "java/lang/IllegalStateException"), 11, 2) := he_of (M := mi_343) rfl ⟨by decide, [], ⟨0, 7, 10, 20⟩, [], rfl, fm_n, rfl, by decide, w_1431, by decide, Or.inl ⟨2, rfl, rfl, by decide +kernel⟩⟩
theorem he_344_4_0 : HE ((344, 4, "java/lang/IllegalStateException"), 13, 3) := he_of (M := mi_344) rfl ⟨by decide, [], ⟨0, 9, 12, 20⟩, [⟨0, 9, 15, 13⟩], rfl, fm_n, rfl, by decide, w_1431, by decide, Or.inl ⟨3, rfl, rfl, by decide +kernel⟩⟩
theorem he_344_4_1 : HE ((344, 4, "java/lang/IndexOutOfBoundsException"), 16, 3) := he_of (M := mi_344) rfl ⟨by decide, [⟨0, 9, 12, 20⟩], ⟨0, 9, 15, 13⟩, [], rfl, (fm_c (Or.inr ⟨by decide, "java/lang/IllegalStateException", w_1431, by decide⟩) fm_n), rfl, by decide, w_1429, by decide, Or.inl ⟨3, rfl, rfl, by decide +kernel⟩⟩
theorem he_345_3_0 : HE ((345, 3, "java/lang/IllegalStateException"), 12, 2) := he_of (M := mi_345) rfl ⟨by decide, [], ⟨0, 8, 11, 20⟩, [], rfl, fm_n, rfl, by decide, w_1431, by decide, Or.inl ⟨2, rfl, rfl, by decide +kernel⟩⟩
theorem he_346_3_0 : HE ((346, 3, "java/lang/IllegalStateException"), 12, 2) := he_of (M := mi_346) rfl ⟨by decide, [], ⟨0, 8, 11, 20⟩, [], rfl, fm_n, rfl, by decide, w_1431, by decide, Or.inl ⟨2, rfl, rfl, by decide +kernel⟩⟩
theorem he_347_3_0 : HE ((347, 3, "java/lang/IllegalStateException"), 12, 2) := he_of (M := mi_347) rfl ⟨by decide, [], ⟨0, 8, 11, 20⟩, [], rfl, fm_n, rfl, by decide, w_1431, by decide, Or.inl ⟨2, rfl, rfl, by decide +kernel⟩⟩
theorem he_348_4_0 : HE ((348, 4, "java/lang/IllegalStateException"), 13, 3) := he_of (M := mi_348) rfl ⟨by decide, [], ⟨0, 9, 12, 20⟩, [⟨0, 9, 15, 13⟩], rfl, fm_n, rfl, by decide, w_1431, by decide, Or.inl ⟨3, rfl, rfl, by decide +kernel⟩⟩
theorem he_348_4_1 : HE ((348, 4, "java/lang/IndexOutOfBoundsException"), 16, 3) := he_of (M := mi_348) rfl ⟨by decide, [⟨0, 9, 12, 20⟩], ⟨0, 9, 15, 13⟩, [], rfl, (fm_c (Or.inr ⟨by decide, "java/lang/IllegalStateException", w_1431, by decide⟩) fm_n), rfl, by decide, w_1429, by decide, Or.inl ⟨3, rfl, rfl, by decide +kernel⟩⟩
theorem he_349_3_0 : HE ((349, 3, "java/lang/IllegalStateException"), 12, 2) := he_of (M := mi_349) rfl ⟨by decide, [], ⟨0, 8, 11, 20⟩, [], rfl, fm_n, rfl, by decide, w_1431, by decide, Or.inl ⟨2, rfl, rfl, by decide +kernel⟩⟩
theorem he_350_3_0 : HE ((350, 3, "java/lang/IllegalStateException"), 12, 2) := he_of (M := mi_350) rfl ⟨by decide, [], ⟨0, 8, 11, 20⟩, [], rfl, fm_n, rfl, by decide, w_1431, by decide, Or.inl ⟨2, rfl, rfl, by decide +kernel⟩⟩
theorem he_351_4_0 : HE ((351, 4, "java/lang/IllegalStateException"), 13, 3) := he_of (M := mi_351) rfl ⟨by decide, [], ⟨0, 9, 12, 20⟩, [⟨0, 9, 15, 15⟩], rfl, fm_n, rfl, by decide, w_1431, by decide, Or.inl ⟨3, rfl, rfl, by decide +kernel⟩⟩
theorem he_351_4_1 : HE ((351, 4, "java/lang/IllegalArgumentException"), 16, 3) := he_of (M := mi_351) rfl ⟨by decide, [⟨0, 9, 12, 20⟩], ⟨0, 9, 15, 15⟩, [], rfl, (fm_c (Or.inr ⟨by decide, "java/lang/IllegalStateException", w_1431, by decide⟩) fm_n), rfl, by decide, w_1430, by decide, Or.inl ⟨3, rfl, rfl, by decide +kernel⟩⟩
theorem he_352_4_0 : HE ((352, 4, "java/lang/IndexOutOfBoundsException"), 13, 3) := he_of (M := mi_352) rfl ⟨by decide, [], ⟨0, 9, 12, 13⟩, [], rfl, fm_n, rfl, by decide, w_1429, by decide, Or.inl ⟨3, rfl, rfl, by decide +kernel⟩⟩
theorem he_353_5_0 : HE ((353, 5, "java/lang/IllegalStateException"), 15, 4) := he_of (M := mi_353) rfl ⟨by decide, [], ⟨0, 10, 13, 20⟩, [⟨0, 10, 17, 13⟩, ⟨0, 10, 21, 15⟩], rfl, fm_n, rfl, by decide, w_1431, by decide, Or.inr ⟨rfl, by decide +kernel⟩⟩
theorem he_353_5_1 : HE ((353, 5, "java/lang/IndexOutOfBoundsException"), 19, 4) := he_of (M := mi_353) rfl ⟨by decide, [⟨0, 10, 13, 20⟩], ⟨0, 10, 17, 13⟩, [⟨0, 10, 21, 15⟩], rfl, (fm_c (Or.inr ⟨by decide, "java/lang/IllegalStateException", w_1431, by decide⟩) fm_n), rfl, by decide, w_1429, by decide, Or.inr ⟨rfl, by decide +kernel⟩⟩
theorem he_353_5_2 : HE ((353, 5, "java/lang/IllegalArgumentException"), 23, 4) := he_of (M := mi_353) rfl ⟨by decide, [⟨0, 10, 13, 20⟩, ⟨0, 10, 17, 13⟩], ⟨0, 10, 21, 15⟩, [], rfl, (fm_c (Or.inr ⟨by decide, "java/lang/IllegalStateException", w_1431, by decide⟩) (fm_c (Or.inr ⟨by decide, "java/lang/IndexOutOfBoundsException", w_1429, by decide⟩) fm_n)), rfl, by decide, w_1430, by decide, Or.inr ⟨rfl, by decide +kernel⟩⟩
theorem he_354_4_0 : HE ((354, 4, "java/lang/IllegalStateException"), 13, 3) := he_of (M := mi_354) rfl ⟨by decide, [], ⟨0, 9, 12, 20⟩, [⟨0, 9, 15, 13⟩], rfl, fm_n, rfl, by decide, w_1431, by decide, Or.inl ⟨3, rfl, rfl, by decide +kernel⟩⟩
theorem he_354_4_1 : HE ((354, 4, "java/lang/IndexOutOfBoundsException"), 16, 3) := he_of (M := mi_354) rfl ⟨by decide, [⟨0, 9, 12, 20⟩], ⟨0, 9, 15, 13⟩, [], rfl, (fm_c (Or.inr ⟨by decide, "java/lang/IllegalStateException", w_1431, by decide⟩) fm_n), rfl, by decide, w_1429, by decide, Or.inl ⟨3, rfl, rfl, by decide +kernel⟩⟩
theorem he_355_5_0 : HE ((355, 5, "java/lang/IllegalStateException"), 15, 4) := he_of (M := mi_355) rfl ⟨by decide, [], ⟨0, 10, 13, 20⟩, [⟨0, 10, 17, 13⟩], rfl, fm_n, rfl, by decide, w_1431, by decide, Or.inr ⟨rfl, by decide +kernel⟩⟩
theorem he_355_5_1 : HE ((355, 5, "java/lang/IndexOutOfBoundsException"), 19, 4) := he_of (M := mi_355) rfl ⟨by decide, [⟨0, 10, 13, 20⟩], ⟨0, 10, 17, 13⟩, [], rfl, (fm_c (Or.inr ⟨by decide, "java/lang/IllegalStateException", w_1431, by decide⟩) fm_n), rfl, by decide, w_1429, by decide, Or.inr ⟨rfl, by decide +kernel⟩⟩
theorem he_356_5_0 : HE ((356, 5, "java/lang/IllegalStateException"), 15, 4) := he_of (M := mi_356) rfl ⟨by decide, [], ⟨0, 10, 13, 20⟩, [⟨0, 10, 17, 13⟩, ⟨0, 10, 21, 15⟩], rfl, fm_n, rfl, by decide, w_1431, by decide, Or.inr ⟨rfl, by decide +kernel⟩⟩
theorem he_356_5_1 : HE ((356, 5, "java/lang/IndexOutOfBoundsException"), 19, 4) := he_of (M := mi_356) rfl ⟨by decide, [⟨0, 10, 13, 20⟩], ⟨0, 10, 17, 13⟩, [⟨0, 10, 21, 15⟩], rfl, (fm_c (Or.inr ⟨by decide, "java/lang/IllegalStateException", w_1431, by decide⟩) fm_n), rfl, by decide, w_1429, by decide, Or.inr ⟨rfl, by decide +kernel⟩⟩
theorem he_356_5_2 : HE ((356, 5, "java/lang/IllegalArgumentException"), 23, 4) := he_of (M := mi_356) rfl ⟨by decide, [⟨0, 10, 13, 20⟩, ⟨0, 10, 17, 13⟩], ⟨0, 10, 21, 15⟩, [], rfl, (fm_c (Or.inr ⟨by decide, "java/lang/IllegalStateException", w_1431, by decide⟩) (fm_c (Or.inr ⟨by decide, "java/lang/IndexOutOfBoundsException", w_1429, by decide⟩) fm_n)), rfl, by decide, w_1430, by decide, Or.inr ⟨rfl, by decide +kernel⟩⟩
theorem he_357_7_0 : HE ((357, 7, "java/lang/IllegalStateException"), 17, 5) := he_of (M := mi_357) rfl ⟨by decide, [], ⟨0, 12, 15, 20⟩, [⟨0, 12, 19, 13⟩, ⟨0, 12, 23, 15⟩], rfl, fm_n, rfl, by decide, w_1431, by decide, Or.inr ⟨rfl, by decide +kernel⟩⟩
theorem he_357_7_1 : HE ((357, 7, "java/lang/IndexOutOfBoundsException"), 21, 5) := he_of (M := mi_357) rfl ⟨by decide, [⟨0, 12, 15, 20⟩], ⟨0, 12, 19, 13⟩, [⟨0, 12, 23, 15⟩], rfl, (fm_c (Or.inr ⟨by decide, "java/lang/IllegalStateException", w_1431, by decide⟩) fm_n), rfl, by decide, w_1429, by decide, Or.inr ⟨rfl, by decide +kernel⟩⟩
theorem he_357_7_2 : HE ((357, 7, "java/lang/IllegalArgumentException"), 25, 5) := he_of (M := mi_357) rfl ⟨by decide, [⟨0, 12, 15, 20⟩, ⟨0, 12, 19, 13⟩], ⟨0, 12, 23, 15⟩, [], rfl, (fm_c (Or.inr ⟨by decide, "java/lang/IllegalStateException", w_1431, by decide⟩) (fm_c (Or.inr ⟨by decide, "java/lang/IndexOutOfBoundsException", w_1429, by decide⟩) fm_n)), rfl, by decide, w_1430, by decide, Or.inr ⟨rfl, by decide +kernel⟩⟩
theorem he_358_7_0 : HE ((358, 7, "java/lang/IllegalStateException"), 17, 5) := he_of (M := mi_358) rfl ⟨by decide, [], ⟨0, 12, 15, 20⟩, [⟨0, 12, 19, 13⟩, ⟨0, 12, 23, 15⟩], rfl, fm_n, rfl, by decide, w_1431, by decide, Or.inr ⟨rfl, by decide +kernel⟩⟩
theorem he_358_7_1 : HE ((358, 7, "java/lang/IndexOutOfBoundsException"), 21, 5) := he_of (M := mi_358) rfl ⟨by decide, [⟨0, 12, 15, 20⟩], ⟨0, 12, 19, 13⟩, [⟨0, 12, 23, 15⟩], rfl, (fm_c (Or.inr ⟨by decide, "java/lang/IllegalStateException", w_1431, by decide⟩) fm_n), rfl, by decide, w_1429, by decide, Or.inr ⟨rfl, by decide +kernel⟩⟩
theorem he_358_7_2 : HE ((358, 7, "java/lang/IllegalArgumentException"), 25, 5) := he_of (M := mi_358) rfl ⟨by decide, [⟨0, 12, 15, 20⟩, ⟨0, 12, 19, 13⟩], ⟨0, 12, 23, 15⟩, [], rfl, (fm_c (Or.inr ⟨by decide, "java/lang/IllegalStateException", w_1431, by decide⟩) (fm_c (Or.inr ⟨by decide, "java/lang/IndexOutOfBoundsException", w_1429, by decide⟩) fm_n)), rfl, by decide, w_1430, by decide, Or.inr ⟨rfl, by decide +kernel⟩⟩
theorem he_359_4_0 : HE ((359, 4, "java/lang/IllegalStateException"), 13, 3) := he_of (M := mi_359) rfl ⟨by decide, [], ⟨0, 9, 12, 20⟩, [⟨0, 9, 15, 13⟩, ⟨0, 9, 18, 15⟩], rfl, fm_n, rfl, by decide, w_1431, by decide, Or.inl ⟨3, rfl, rfl, by decide +kernel⟩⟩
theorem he_359_4_1 : HE ((359, 4, "java/lang/IndexOutOfBoundsException"), 16, 3) := he_of (M := mi_359) rfl ⟨by decide, [⟨0, 9, 12, 20⟩], ⟨0, 9, 15, 13⟩, [⟨0, 9, 18, 15⟩], rfl, (fm_c (Or.inr ⟨by decide, "java/lang/IllegalStateException", w_1431, by decide⟩) fm_n), rfl, by decide, w_1429, by decide, Or.inl ⟨3, rfl, rfl, by decide +kernel⟩⟩
theorem he_359_4_2 : HE ((359, 4, "java/lang/IllegalArgumentException"), 19, 3) := he_of (M := mi_359) rfl ⟨by decide, [⟨0, 9, 12, 20⟩, ⟨0, 9, 15, 13⟩], ⟨0, 9, 18, 15⟩, [], rfl, (fm_c (Or.inr ⟨by decide, "java/lang/IllegalStateException", w_1431, by decide⟩) (fm_c (Or.inr ⟨by decide, "java/lang/IndexOutOfBoundsException", w_1429, by decide⟩) fm_n)), rfl, by decide, w_1430, by decide, Or.inl ⟨3, rfl, rfl, by decide +kernel⟩⟩
theorem he_360_3_0 : HE ((360, 3, "java/lang/IllegalStateException"), 12, 2) := he_of (M := mi_360) rfl ⟨by decide, [], ⟨0, 8, 11, 20⟩, [], rfl, fm_n, rfl, by decide, w_1431, by decide, Or.inl ⟨2, rfl, rfl, by decide +kernel⟩⟩
theorem he_361_4_0 : HE ((361, 4, "java/lang/IllegalStateException"), 13, 3) := he_of (M := mi_361) rfl ⟨by decide, [], ⟨0, 9, 12, 20⟩, [⟨0, 9, 15, 13⟩], rfl, fm_n, rfl, by decide, w_1431, by decide, Or.inl ⟨3, rfl, rfl, by decide +kernel⟩⟩
theorem he_361_4_1 : HE ((361, 4, "java/lang/IndexOutOfBoundsException"), 16, 3) := he_of (M := mi_361) rfl ⟨by decide, [⟨0, 9, 12, 20⟩], ⟨0, 9, 15, 13⟩, [], rfl, (fm_c (Or.inr ⟨by decide, "java/lang/IllegalStateException", w_1431, by decide⟩) fm_n), rfl, by decide, w_1429, by decide, Or.inl ⟨3, rfl, rfl, by decide +kernel⟩⟩
theorem he_362_4_0 : HE ((362, 4, "java/lang/IndexOutOfBoundsException"), 13, 3) := he_of (M := mi_362) rfl ⟨by decide, [], ⟨0, 9, 12, 13⟩, [⟨0, 9, 15, 20⟩], rfl, fm_n, rfl, by decide, w_1429, by decide, Or.inl ⟨3, rfl, rfl, by decide +kernel⟩⟩
theorem he_362_4_1 : HE ((362, 4, "java/lang/IllegalStateException"), 16, 3) := he_of (M := mi_362) rfl ⟨by decide, [⟨0, 9, 12, 13⟩], ⟨0, 9, 15, 20⟩, [], rfl, (fm_c (Or.inr ⟨by decide, "java/lang/IndexOutOfBoundsException", w_1429, by decide⟩) fm_n), rfl, by decide, w_1431, by decide, Or.inl ⟨3, rfl, rfl, by decide +kernel⟩⟩
def hhl_0 : List ((Nat × Nat × String) × Nat × Nat) := [((313, 4, "java/lang/IndexOutOfBoundsException"), 13, 3), ((313, 4, "java/lang/IllegalArgumentException"), 16, 3), ((314, 4, "java/lang/IllegalStateException"), 13, 3), ((314, 4, "java/lang/IndexOutOfBoundsException"), 16, 3), ((315, 4, "java/lang/IllegalStateException"), 13, 3), ((315, 4, "java/lang/IndexOutOfBoundsException"), 16, 3), ((316, 3, "java/lang/IllegalStateException"), 12, 2), ((317, 3, "java/lang/IllegalStateException"), 12, 2), ((318, 4, "java/lang/IllegalStateException"), 13, 3), ((318, 4, "java/lang/IndexOutOfBoundsException"), 16, 3), ((319, 4, "java/lang/IllegalStateException"), 13, 3), ((319, 4, "java/lang/IndexOutOfBoundsException"), 16, 3), ((320, 5, "java/lang/IllegalStateException"), 15, 4), ((321, 3, "java/lang/IllegalStateException"), 11, 2), ((322, 5, "java/lang/IllegalStateException"), 22, 4), ((322, 5, "java/lang/IndexOutOfBoundsException"), 26, 4), ((323, 4, "java/lang/IllegalStateException"), 12, 3), ((323, 4, "java/lang/IndexOutOfBoundsException"), 15, 3), ((324, 3, "java/lang/IllegalStateException"), 11, 2), ((325, 5, "java/lang/IllegalStateException"), 15, 4)]
theorem hhl_0_ok : ∀ e ∈ hhl_0, HE e := (fm_c he_313_4_0 (fm_c he_313_4_1 (fm_c he_314_4_0 (fm_c he_314_4_1 (fm_c he_315_4_0 (fm_c he_315_4_1 (fm_c he_316_3_0 (fm_c he_317_3_0 (fm_c he_318_4_0 (fm_c he_318_4_1 (fm_c he_319_4_0 (fm_c he_319_4_1 (fm_c he_320_5_0 (fm_c he_321_3_0 (fm_c he_322_5_0 (fm_c he_322_5_1 (fm_c he_323_4_0 (fm_c he_323_4_1 (fm_c he_324_3_0 (fm_c he_325_5_0 fm_n))))))))))))))))))))
def hhl_1 : List ((Nat × Nat × String) × Nat × Nat) := [((325, 5, "java/lang/IndexOutOfBoundsException"), 19, 4), ((326, 3, "java/lang/IllegalStateException"), 12, 2), ((327, 4, "java/lang/IllegalStateException"), 13, 3), ((327, 4, "java/lang/IndexOutOfBoundsException"), 16, 3), ((328, 4, "java/lang/IllegalStateException"), 12, 3), ((328, 4, "java/lang/IndexOutOfBoundsException"), 15, 3), ((329, 5, "java/lang/IllegalStateException"), 15, 4), ((329, 5, "java/lang/IndexOutOfBoundsException"), 19, 4), ((329, 5, "java/lang/IllegalArgumentException"), 23, 4), ((330, 4, "java/lang/IllegalStateException"), 13, 3), ((330, 4, "java/lang/IndexOutOfBoundsException"), 16, 3), ((331, 4, "java/lang/IllegalStateException"), 13, 3), ((331, 4, "java/lang/IndexOutOfBoundsException"), 16, 3), ((332, 3, "java/lang/IllegalStateException"), 12, 2), ((333, 3, "java/lang/IllegalStateException"), 12, 2), ((334, 3, "java/lang/IllegalStateException"), 12, 2), ((335, 3, "java/lang/IllegalStateException"), 12, 2), ((336, 4, "java/lang/IllegalStateException"), 13, 3), ((336, 4, "java/lang/IndexOutOfBoundsException"), 16, 3), ((337, 3, "java/lang/IllegalStateException"), 12, 2)]
theorem hhl_1_ok : ∀ e ∈ hhl_1, HE e := (fm_c he_325_5_1 (fm_c he_326_3_0 (fm_c he_327_4_0 (fm_c he_327_4_1 (fm_c he_328_4_0 (fm_c he_328_4_1 (fm_c he_329_5_0 (fm_c he_329_5_1 (fm_c he_329_5_2 (fm_c he_330_4_0 (fm_c he_330_4_1 (fm_c he_331_4_0 (fm_c he_331_4_1 (fm_c he_332_3_0 (fm_c he_333_3_0 (fm_c he_334_3_0 (fm_c he_335_3_0 (fm_c he_336_4_0 (fm_c he_336_4_1 (fm_c he_337_3_0 fm_n))))))))))))))))))))
def hhl_2 : List ((Nat × Nat × String) × Nat × Nat) := [((338, 4, "java/lang/IllegalStateException"), 13, 3), ((338, 4, "java/lang/IndexOutOfBoundsException"), 16, 3), ((339, 3, "java/lang/IllegalStateException"), 12, 2), ((340, 4, "java/lang/IllegalStateException"), 13, 3), ((340, 4, "java/lang/IndexOutOfBoundsException"), 16, 3), ((341, 4, "java/lang/IllegalStateException"), 13, 3), ((341, 4, "java/lang/IndexOutOfBoundsException"), 16, 3), ((342, 4, "java/lang/IllegalStateException"), 12, 3), ((342, 4, "java/lang/IndexOutOfBoundsException"), 15, 3), ((343, 3, "java/lang/IllegalStateException"), 11, 2), ((344, 4, "java/lang/IllegalStateException"), 13, 3), ((344, 4, "java/lang/IndexOutOfBoundsException"), 16, 3), ((345, 3, "java/lang/IllegalStateException"), 12, 2), ((346, 3, "java/lang/IllegalStateException"), 12, 2), ((347, 3, "java/lang/IllegalStateException"), 12, 2), ((348, 4, "java/lang/IllegalStateException"), 13, 3), ((348, 4, "java/lang/IndexOutOfBoundsException"), 16, 3), ((349, 3, "java/lang/IllegalStateException"), 12, 2), ((350, 3, "java/lang/IllegalStateException"), 12, 2), ((351, 4, "java/lang/IllegalStateException"), 13, 3)]
theorem hhl_2_ok : ∀ e ∈ hhl_2, HE e := (fm_c he_338_4_0 (fm_c he_338_4_1 (fm_c he_339_3_0 (fm_c he_340_4_0 (fm_c he_340_4_1 (fm_c he_341_4_0 (fm_c he_341_4_1 (fm_c he_342_4_0 (fm_c he_342_4_1 (fm_c he_343_3_0 (fm_c he_344_4_0 (fm_c he_344_4_1 (fm_c he_345_3_0 (fm_c he_346_3_0 (fm_c he_347_3_0 (fm_c he_348_4_0 (fm_c he_348_4_1 (fm_c he_349_3_0 (fm_c he_350_3_0 (fm_c he_351_4_0 fm_n))))))))))))))))))))
def hhl_3 : List ((Nat × Nat × String) × Nat × Nat) := [((351, 4, "java/lang/IllegalArgumentException"), 16, 3), ((352, 4, "java/lang/IndexOutOfBoundsException"), 13, 3), ((353, 5, "java/lang/IllegalStateException"), 15, 4), ((353, 5, "java/lang/IndexOutOfBoundsException"), 19, 4), ((353, 5, "java/lang/IllegalArgumentException"), 23, 4), ((354, 4, "java/lang/IllegalStateException"), 13, 3), ((354, 4, "java/lang/IndexOutOfBoundsException"), 16, 3), ((355, 5, "java/lang/IllegalStateException"), 15, 4), ((355, 5, "java/lang/IndexOutOfBoundsException"), 19, 4), ((356, 5, "java/lang/IllegalStateException"), 15, 4), ((356, 5, "java/lang/IndexOutOfBoundsException"), 19, 4), ((356, 5, "java/lang/IllegalArgumentException"), 23, 4), ((357, 7, "java/lang/IllegalStateException"), 17, 5), ((357, 7, "java/lang/IndexOutOfBoundsException"), 21, 5), ((357, 7, "java/lang/IllegalArgumentException"), 25, 5), ((358, 7, "java/lang/IllegalStateException"), 17, 5), ((358, 7, "java/lang/IndexOutOfBoundsException"), 21, 5), ((358, 7, "java/lang/IllegalArgumentException"), 25, 5), ((359, 4, "java/lang/IllegalStateException"), 13, 3), ((359, 4, "java/lang/IndexOutOfBoundsException"), 16, 3)]
theorem hhl_3_ok : ∀ e ∈ hhl_3, HE e := (fm_c he_351_4_1 (fm_c he_352_4_0 (fm_c he_353_5_0 (fm_c he_353_5_1 (fm_c he_353_5_2 (fm_c he_354_4_0 (fm_c he_354_4_1 (fm_c he_355_5_0 (fm_c he_355_5_1 (fm_c he_356_5_0 (fm_c he_356_5_1 (fm_c he_356_5_2 (fm_c he_357_7_0 (fm_c he_357_7_1 (fm_c he_357_7_2 (fm_c he_358_7_0 (fm_c he_358_7_1 (fm_c he_358_7_2 (fm_c he_359_4_0 (fm_c he_359_4_1 fm_n))))))))))))))))))))
def hhl_4 : List ((Nat × Nat × String) × Nat × Nat) := [((359, 4, "java/lang/IllegalArgumentException"), 19, 3), ((360, 3, "java/lang/IllegalStateException"), 12, 2), ((361, 4, "java/lang/IllegalStateException"), 13, 3), ((361, 4, "java/lang/IndexOutOfBoundsException"), 16, 3), ((362, 4, "java/lang/IndexOutOfBoundsException"), 13, 3), ((362, 4, "java/lang/IllegalStateException"), 16, 3)]
theorem hhl_4_ok : ∀ e ∈ hhl_4, HE e := (fm_c he_359_4_2 (fm_c he_360_3_0 (fm_c he_361_4_0 (fm_c he_361_4_1 (fm_c he_362_4_0 (fm_c he_362_4_1 fm_n))))))
def hhL : List ((Nat × Nat × String) × Nat × Nat) := hhl_0 ++ (hhl_1 ++ (hhl_2 ++ (hhl_3 ++ (hhl_4))))
theorem hhL_ok : ∀ e ∈ hhL, HE e := (List.forall_mem_append.mpr ⟨hhl_0_ok, (List.forall_mem_append.mpr ⟨hhl_1_ok, (List.forall_mem_append.mpr ⟨hhl_2_ok, (List.forall_mem_append.mpr ⟨hhl_3_ok, hhl_4_ok⟩)⟩)⟩)⟩)
def ntT (k pc : Nat) : Option String := (ttl.find? (fun e => e.1.1 == k && e.1.2 == pc)).map (fun e => e.2)
def ntH (k pc : Nat) (E : String) : Option (Nat × Nat) := (hhL.find? (fun e => e.1.1 == k && (e.1.2.1 == pc && e.1.2.2 == E))).map (fun e => e.2)
/-- the tables of this program, with steps of its own 'X' -/
def GT (X : Nat → Nat → Nat → LV → List Value → SG → Option S4) : TB := (ntM, ntF, ntK, ntC, ntT, ntH, X)
theorem dOK_lk {cc : ByteArray} {t : List (Nat × Instr)} {pc : Nat} {i : Instr} (h : dOK cc t) (hi : lkp t pc = some i) : decode cc pc = .ok (i, ilen i) := by
  have h1 := lkp_mem hi
  have h2 := List.all_eq_true.mp h _ h1
  exact of_decide_eq_true h2
section Tab
variable {X : Nat → Nat → Nat → LV → List Value → SG → Option S4}
theorem ntM_G {k : Nat} {M : MI} (h : ntM k = some M) : ∃ e, mtG k = some e ∧ e.1 = M := by
  unfold ntM at h
  split at h
  · next e he => exact ⟨e, he, Option.some.inj h⟩
  · cases h
theorem nt_gM : gM (GT X) := by
  intro k M hM
  obtain ⟨e, he, rfl⟩ := ntM_G hM
  obtain ⟨l, hl, hel⟩ := mtG_mem he
  obtain ⟨h1, h2, h3⟩ := mtt_nm l hl e hel
  refine ⟨h1, h2, ?_, ?_⟩
  · have : tbK (GT X) k = lkO e.2.1 := by show ntK k = _; unfold ntK; rw [he]
    rw [this]
    exact lk_of (ot_ok _ _ h3)
  · intro pc i hi
    have : tbF (GT X) k pc = lkp e.2.2 pc := by show ntF k pc = _; unfold ntF; rw [he]
    rw [this] at hi
    exact dOK_lk (mtt_ok l hl e hel) hi
theorem nt_gC : gC (GT X) := by
  intro k M ix k' kd na ci M' hM hC hM'
  obtain ⟨e, he, rfl⟩ := ntM_G hM
  obtain ⟨l, hl, hel⟩ := mtG_mem he
  obtain ⟨-, -, h3⟩ := mtt_nm l hl e hel
  have : tbC (GT X) k ix = lkp (ot e.2.1).2.2.2 ix := by show ntC k ix = _; unfold ntC; rw [he]
  rw [this] at hC
  exact oc_ok _ _ h3 _ (lkp_mem hC) M' hM'
theorem nt_gT : gT (GT X) := by
  intro k M pc E hM hT
  have hT : (ttl.find? (fun e => e.1.1 == k && e.1.2 == pc)).map (fun e => e.2) = some E := hT
  cases hf : ttl.find? (fun e => e.1.1 == k && e.1.2 == pc) with
  | none => rw [hf] at hT; cases hT
  | some q =>
    rw [hf] at hT
    have h1 := List.mem_of_find?_eq_some hf
    have h2 := List.find?_some hf
    simp at h2
    have h4 : q.2 = E := Option.some.inj hT
    have := ttl_ok _ h1 M (by rw [h2.1]; exact hM)
    rw [h2.2, h4] at this
    exact this
theorem nt_gH : gH (GT X) := by
  intro k M pc E h j hM hT
  have hT : (hhL.find? (fun e => e.1.1 == k && (e.1.2.1 == pc && e.1.2.2 == E))).map (fun e => e.2) = some (h, j) := hT
  cases hf : hhL.find? (fun e => e.1.1 == k && (e.1.2.1 == pc && e.1.2.2 == E)) with
  | none => rw [hf] at hT; cases hT
  | some q =>
    rw [hf] at hT
    have h1 := List.mem_of_find?_eq_some hf
    have h2 := List.find?_some hf
    simp at h2
    have h3 := hhL_ok q h1 M (by rw [h2.1]; exact hM)
    have h4 : q.2 = (h, j) := Option.some.inj hT
    rw [h2.2.1, h2.2.2, h4] at h3
    exact h3
end Tab
