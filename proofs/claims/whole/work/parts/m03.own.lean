def fm_dummy : Unit := ()
theorem fm_n {α : Type} {P : α → Prop} : ∀ e ∈ ([] : List α), P e := fun _ h => nomatch h
theorem fm_c {α : Type} {P : α → Prop} {a : α} {l : List α} (h : P a) (hl : ∀ e ∈ l, P e) : ∀ e ∈ a :: l, P e := List.forall_mem_cons.mpr ⟨h, hl⟩
def FgE (own : String) (e : Nat × Nat × Nat × FieldType × Bool) : Prop := ∃ dec, Fg own e.1 e.2.1 e.2.2.1 e.2.2.2.1 e.2.2.2.2 dec
def ofl_0 : List (Nat × Nat × Nat × FieldType × Bool) := [(9, 0, 3, .array .long, true), (15, 0, 4, .array .long, true), (18, 0, 5, .array .int, true), (22, 0, 6, .int, false), (26, 0, 7, .int, false), (29, 0, 8, .int, false), (32, 0, 0, .object "GalleryGuards$Plan", true), (36, 0, 1, .object "GalleryGuards$Lattice", true), (40, 0, 2, .object "GalleryGuards$Sight", true), (44, 5, 0, .int, false), (100, 3, 0, .int, false)]
theorem ofl_0_ok : ∀ e ∈ ofl_0, FgE RX0 e := (fm_c ⟨true, fg_X0_9⟩ (fm_c ⟨true, fg_X0_15⟩ (fm_c ⟨true, fg_X0_18⟩ (fm_c ⟨true, fg_X0_22⟩ (fm_c ⟨true, fg_X0_26⟩ (fm_c ⟨true, fg_X0_29⟩ (fm_c ⟨true, fg_X0_32⟩ (fm_c ⟨true, fg_X0_36⟩ (fm_c ⟨true, fg_X0_40⟩ (fm_c ⟨false, fg_X0_44⟩ (fm_c ⟨false, fg_X0_100⟩ fm_n)))))))))))
def oil_0 : List (Nat × Int32) := []
theorem oil_0_ok : ∀ e ∈ oil_0, Cond.constant RX0 e.1 e.2 ∈ Big := fm_n
def oll_0 : List (Nat × Int64) := [(103, (-1 : Int64))]
theorem oll_0_ok : ∀ e ∈ oll_0, Cond.constantLong RX0 e.1 e.2 ∈ Big := (fm_c w_36 fm_n)
def ocl_0 : List (Nat × Nat × Nat × Nat × Nat) := [(49, 44, 0, 1, 5), (53, 45, 0, 1, 5), (56, 18, 0, 2, 3), (62, 73, 0, 1, 6), (68, 3, 0, 0, 0), (72, 75, 0, 1, 6), (80, 364, 1, 1, 0), (85, 4, 0, 1, 0), (88, 21, 0, 0, 3), (92, 177, 2, 2, 0), (96, 7, 0, 4, 0)]
def ofl_1 : List (Nat × Nat × Nat × FieldType × Bool) := [(9, 1, 0, .int, false), (15, 1, 1, .int, false), (20, 1, 2, .array (.object "GalleryGuards$Plan"), true)]
theorem ofl_1_ok : ∀ e ∈ ofl_1, FgE RX1 e := (fm_c ⟨true, fg_X1_9⟩ (fm_c ⟨true, fg_X1_15⟩ (fm_c ⟨true, fg_X1_20⟩ fm_n)))
def oil_1 : List (Nat × Int32) := []
theorem oil_1_ok : ∀ e ∈ oil_1, Cond.constant RX1 e.1 e.2 ∈ Big := fm_n
def oll_1 : List (Nat × Int64) := []
theorem oll_1_ok : ∀ e ∈ oll_1, Cond.constantLong RX1 e.1 e.2 ∈ Big := fm_n
def ocl_1 : List (Nat × Nat × Nat × Nat × Nat) := [(25, 43, 0, 1, 5)]
def ofl_2 : List (Nat × Nat × Nat × FieldType × Bool) := [(9, 2, 0, .int, false), (15, 2, 1, .int, false), (18, 2, 2, .int, false), (21, 2, 3, .int, false), (24, 2, 4, .int, false), (27, 2, 5, .int, false), (30, 2, 6, .array .int, true)]
theorem ofl_2_ok : ∀ e ∈ ofl_2, FgE RX2 e := (fm_c ⟨true, fg_X2_9⟩ (fm_c ⟨true, fg_X2_15⟩ (fm_c ⟨true, fg_X2_18⟩ (fm_c ⟨true, fg_X2_21⟩ (fm_c ⟨true, fg_X2_24⟩ (fm_c ⟨true, fg_X2_27⟩ (fm_c ⟨true, fg_X2_30⟩ fm_n)))))))
def oil_2 : List (Nat × Int32) := []
theorem oil_2_ok : ∀ e ∈ oil_2, Cond.constant RX2 e.1 e.2 ∈ Big := fm_n
def oll_2 : List (Nat × Int64) := []
theorem oll_2_ok : ∀ e ∈ oll_2, Cond.constantLong RX2 e.1 e.2 ∈ Big := fm_n
def ocl_2 : List (Nat × Nat × Nat × Nat × Nat) := [(34, 13, 0, 0, 2), (37, 14, 0, 3, 2), (41, 15, 0, 0, 2)]
def ofl_3 : List (Nat × Nat × Nat × FieldType × Bool) := [(9, 3, 0, .int, false), (15, 3, 1, .long, false), (19, 3, 2, .array .int, true), (23, 3, 3, .array .int, true), (26, 3, 4, .array .int, true), (37, 5, 1, .int, false), (53, 5, 2, .int, false)]
theorem ofl_3_ok : ∀ e ∈ ofl_3, FgE RX3 e := (fm_c ⟨true, fg_X3_9⟩ (fm_c ⟨true, fg_X3_15⟩ (fm_c ⟨true, fg_X3_19⟩ (fm_c ⟨true, fg_X3_23⟩ (fm_c ⟨true, fg_X3_26⟩ (fm_c ⟨false, fg_X3_37⟩ (fm_c ⟨false, fg_X3_53⟩ fm_n)))))))
def oil_3 : List (Nat × Int32) := []
theorem oil_3_ok : ∀ e ∈ oil_3, Cond.constant RX3 e.1 e.2 ∈ Big := fm_n
def oll_3 : List (Nat × Int64) := [(35, (-1 : Int64))]
theorem oll_3_ok : ∀ e ∈ oll_3, Cond.constantLong RX3 e.1 e.2 ∈ Big := (fm_c w_64 fm_n)
def ocl_3 : List (Nat × Nat × Nat × Nat × Nat) := [(29, 33, 1, 3, 0), (42, 52, 0, 1, 5), (46, 53, 0, 1, 5), (49, 18, 0, 2, 3), (56, 60, 0, 1, 5), (59, 61, 0, 1, 5)]
def ofl_4 : List (Nat × Nat × Nat × FieldType × Bool) := [(24, 5, 0, .int, false)]
theorem ofl_4_ok : ∀ e ∈ ofl_4, FgE RX4 e := (fm_c ⟨false, fg_X4_24⟩ fm_n)
def oil_4 : List (Nat × Int32) := []
theorem oil_4_ok : ∀ e ∈ oil_4, Cond.constant RX4 e.1 e.2 ∈ Big := fm_n
def oll_4 : List (Nat × Int64) := []
theorem oll_4_ok : ∀ e ∈ oll_4, Cond.constantLong RX4 e.1 e.2 ∈ Big := fm_n
def ocl_4 : List (Nat × Nat × Nat × Nat × Nat) := [(9, 44, 0, 1, 5), (15, 45, 0, 1, 5), (18, 23, 1, 6, 0), (28, 46, 0, 1, 5), (31, 25, 1, 1, 0), (35, 47, 0, 1, 5), (38, 24, 1, 4, 0), (42, 28, 1, 2, 0), (46, 29, 1, 3, 0), (50, 30, 1, 6, 0), (54, 32, 1, 5, 0), (58, 31, 1, 2, 0), (71, 34, 1, 4, 0)]
def ofl_5 : List (Nat × Nat × Nat × FieldType × Bool) := [(9, 4, 3, .int, false), (15, 4, 4, .int, false), (18, 4, 0, .object "GalleryGuards$Input", true), (22, 4, 1, .object "GalleryGuards$Plan", true), (26, 4, 2, .object "GalleryGuards$Lattice", true), (57, 2, 1, .int, false), (85, 5, 1, .int, false), (93, 5, 2, .int, false), (101, 2, 3, .int, false)]
theorem ofl_5_ok : ∀ e ∈ ofl_5, FgE RX5 e := (fm_c ⟨true, fg_X5_9⟩ (fm_c ⟨true, fg_X5_15⟩ (fm_c ⟨true, fg_X5_18⟩ (fm_c ⟨true, fg_X5_22⟩ (fm_c ⟨true, fg_X5_26⟩ (fm_c ⟨false, fg_X5_57⟩ (fm_c ⟨false, fg_X5_85⟩ (fm_c ⟨false, fg_X5_93⟩ (fm_c ⟨false, fg_X5_101⟩ fm_n)))))))))
def oil_5 : List (Nat × Int32) := []
theorem oil_5_ok : ∀ e ∈ oil_5, Cond.constant RX5 e.1 e.2 ∈ Big := fm_n
def oll_5 : List (Nat × Int64) := []
theorem oll_5_ok : ∀ e ∈ oll_5, Cond.constantLong RX5 e.1 e.2 ∈ Big := fm_n
def ocl_5 : List (Nat × Nat × Nat × Nat × Nat) := [(30, 42, 0, 0, 5), (35, 12, 0, 1, 2), (43, 16, 0, 1, 2), (47, 13, 0, 0, 2), (50, 36, 0, 0, 4), (54, 37, 0, 0, 4), (60, 27, 1, 1, 0), (66, 17, 0, 1, 3), (71, 41, 0, 2, 4), (75, 40, 0, 1, 4), (79, 48, 0, 3, 5), (88, 38, 0, 0, 4), (96, 39, 0, 0, 4), (104, 55, 0, 3, 5), (107, 63, 0, 3, 5), (110, 18, 0, 2, 3)]
def ofl_6 : List (Nat × Nat × Nat × FieldType × Bool) := [(9, 5, 0, .int, false), (15, 5, 1, .int, false), (18, 5, 2, .int, false), (21, 5, 3, .array .int, true), (25, 5, 4, .array .int, true), (28, 5, 5, .array .int, true), (31, 5, 6, .array .int, true), (34, 5, 7, .array .int, true), (37, 5, 8, .array .int, true), (40, 5, 9, .array .int, true), (43, 5, 10, .array .int, true)]
theorem ofl_6_ok : ∀ e ∈ ofl_6, FgE RX6 e := (fm_c ⟨true, fg_X6_9⟩ (fm_c ⟨true, fg_X6_15⟩ (fm_c ⟨true, fg_X6_18⟩ (fm_c ⟨true, fg_X6_21⟩ (fm_c ⟨true, fg_X6_25⟩ (fm_c ⟨true, fg_X6_28⟩ (fm_c ⟨true, fg_X6_31⟩ (fm_c ⟨true, fg_X6_34⟩ (fm_c ⟨true, fg_X6_37⟩ (fm_c ⟨true, fg_X6_40⟩ (fm_c ⟨true, fg_X6_43⟩ fm_n)))))))))))
def oil_6 : List (Nat × Int32) := []
theorem oil_6_ok : ∀ e ∈ oil_6, Cond.constant RX6 e.1 e.2 ∈ Big := fm_n
def oll_6 : List (Nat × Int64) := []
theorem oll_6_ok : ∀ e ∈ oll_6, Cond.constantLong RX6 e.1 e.2 ∈ Big := fm_n
def ocl_6 : List (Nat × Nat × Nat × Nat × Nat) := []
def ofl_7 : List (Nat × Nat × Nat × FieldType × Bool) := [(9, 6, 2, .array .long, true), (15, 6, 3, .boolean, false), (19, 6, 0, .object "GalleryGuards$Plan", true), (23, 6, 1, .object "GalleryGuards$Lattice", true), (31, 3, 0, .int, false), (56, 5, 0, .int, false)]
theorem ofl_7_ok : ∀ e ∈ ofl_7, FgE RX7 e := (fm_c ⟨true, fg_X7_9⟩ (fm_c ⟨true, fg_X7_15⟩ (fm_c ⟨true, fg_X7_19⟩ (fm_c ⟨true, fg_X7_23⟩ (fm_c ⟨false, fg_X7_31⟩ (fm_c ⟨false, fg_X7_56⟩ fm_n))))))
def oil_7 : List (Nat × Int32) := []
theorem oil_7_ok : ∀ e ∈ oil_7, Cond.constant RX7 e.1 e.2 ∈ Big := fm_n
def oll_7 : List (Nat × Int64) := [(104, (-1 : Int64))]
theorem oll_7_ok : ∀ e ∈ oll_7, Cond.constantLong RX7 e.1 e.2 ∈ Big := (fm_c w_101 fm_n)
def ocl_7 : List (Nat × Nat × Nat × Nat × Nat) := [(27, 67, 0, 1, 6), (37, 19, 0, 1, 3), (41, 20, 0, 1, 3), (44, 70, 1, 2, 0), (48, 69, 0, 3, 6), (52, 68, 0, 2, 6), (61, 30, 1, 6, 0), (67, 33, 1, 3, 0), (71, 18, 0, 2, 3), (74, 177, 2, 2, 0), (78, 21, 0, 0, 3), (87, 72, 0, 0, 6), (91, 32, 1, 5, 0), (95, 74, 0, 1, 6), (99, 73, 0, 1, 6), (103, 71, 0, 0, 6), (106, 365, 1, 1, 0), (112, 78, 0, 1, 6), (115, 77, 0, 2, 6)]
def ofl_8 : List (Nat × Nat × Nat × FieldType × Bool) := [(9, 7, 1, .array .long, true), (15, 7, 2, .array .int, true), (19, 7, 3, .int, false), (23, 7, 4, .int, false), (26, 7, 0, .object "GalleryGuards$Sight", true)]
theorem ofl_8_ok : ∀ e ∈ ofl_8, FgE RX8 e := (fm_c ⟨true, fg_X8_9⟩ (fm_c ⟨true, fg_X8_15⟩ (fm_c ⟨true, fg_X8_19⟩ (fm_c ⟨true, fg_X8_23⟩ (fm_c ⟨true, fg_X8_26⟩ fm_n)))))
def oil_8 : List (Nat × Int32) := []
theorem oil_8_ok : ∀ e ∈ oil_8, Cond.constant RX8 e.1 e.2 ∈ Big := fm_n
def oll_8 : List (Nat × Int64) := [(58, (-1 : Int64))]
theorem oll_8_ok : ∀ e ∈ oll_8, Cond.constantLong RX8 e.1 e.2 ∈ Big := (fm_c w_112 fm_n)
def ocl_8 : List (Nat × Nat × Nat × Nat × Nat) := [(30, 73, 0, 1, 6), (36, 74, 0, 1, 6), (40, 71, 0, 0, 6), (44, 83, 0, 3, 7), (48, 177, 2, 2, 0), (52, 366, 1, 1, 0), (60, 85, 0, 2, 7), (64, 86, 0, 1, 7), (67, 88, 0, 1, 7), (76, 87, 0, 2, 7)]
def ofl_9 : List (Nat × Nat × Nat × FieldType × Bool) := [(9, 8, 1, .array .int, true), (15, 8, 2, .array .int, true), (18, 8, 3, .array .int, true), (21, 8, 4, .array .int, true), (24, 8, 5, .array .int, true), (27, 8, 6, .array .int, true), (30, 8, 7, .int, false), (34, 8, 8, .boolean, false), (38, 8, 0, .object "GalleryGuards$Plan", true), (66, 5, 0, .int, false)]
theorem ofl_9_ok : ∀ e ∈ ofl_9, FgE RX9 e := (fm_c ⟨true, fg_X9_9⟩ (fm_c ⟨true, fg_X9_15⟩ (fm_c ⟨true, fg_X9_18⟩ (fm_c ⟨true, fg_X9_21⟩ (fm_c ⟨true, fg_X9_24⟩ (fm_c ⟨true, fg_X9_27⟩ (fm_c ⟨true, fg_X9_30⟩ (fm_c ⟨true, fg_X9_34⟩ (fm_c ⟨true, fg_X9_38⟩ (fm_c ⟨false, fg_X9_66⟩ fm_n))))))))))
def oil_9 : List (Nat × Int32) := []
theorem oil_9_ok : ∀ e ∈ oil_9, Cond.constant RX9 e.1 e.2 ∈ Big := fm_n
def oll_9 : List (Nat × Int64) := []
theorem oll_9_ok : ∀ e ∈ oll_9, Cond.constantLong RX9 e.1 e.2 ∈ Big := fm_n
def ocl_9 : List (Nat × Nat × Nat × Nat × Nat) := [(42, 90, 0, 2, 8), (46, 24, 1, 4, 0), (58, 94, 0, 1, 8), (61, 364, 1, 1, 0), (71, 92, 0, 1, 8), (77, 25, 1, 1, 0), (81, 96, 0, 1, 8), (85, 100, 0, 2, 8), (89, 101, 0, 1, 8), (93, 97, 0, 1, 8), (96, 98, 0, 1, 8), (100, 99, 0, 4, 8), (107, 102, 0, 2, 8), (110, 103, 0, 1, 8)]
def ofl_10 : List (Nat × Nat × Nat × FieldType × Bool) := [(9, 9, 0, .object "GalleryGuards$Plan", true), (15, 9, 1, .object "GalleryGuards$Lattice", true), (19, 9, 2, .object "GalleryGuards$Sight", true), (50, 3, 0, .int, false), (74, 5, 1, .int, false), (98, 5, 2, .int, false)]
theorem ofl_10_ok : ∀ e ∈ ofl_10, FgE RX10 e := (fm_c ⟨true, fg_X10_9⟩ (fm_c ⟨true, fg_X10_15⟩ (fm_c ⟨true, fg_X10_19⟩ (fm_c ⟨false, fg_X10_50⟩ (fm_c ⟨false, fg_X10_74⟩ (fm_c ⟨false, fg_X10_98⟩ fm_n))))))
def oil_10 : List (Nat × Int32) := []
theorem oil_10_ok : ∀ e ∈ oil_10, Cond.constant RX10 e.1 e.2 ∈ Big := fm_n
def oll_10 : List (Nat × Int64) := [(93, (-1 : Int64))]
theorem oll_10_ok : ∀ e ∈ oll_10, Cond.constantLong RX10 e.1 e.2 ∈ Big := (fm_c w_141 fm_n)
def ocl_10 : List (Nat × Nat × Nat × Nat × Nat) := [(23, 52, 0, 1, 5), (29, 53, 0, 1, 5), (32, 18, 0, 2, 3), (38, 60, 0, 1, 5), (41, 61, 0, 1, 5), (44, 73, 0, 1, 6), (54, 19, 0, 1, 3), (57, 20, 0, 1, 3), (60, 177, 2, 2, 0), (64, 104, 0, 1, 9), (67, 54, 0, 1, 5), (70, 106, 0, 2, 9), (77, 107, 0, 1, 9), (80, 108, 0, 1, 9), (83, 366, 1, 1, 0), (89, 21, 0, 0, 3), (95, 111, 0, 1, 9), (101, 105, 0, 1, 9), (104, 62, 0, 1, 5), (107, 113, 0, 1, 9)]
def ofl_11 : List (Nat × Nat × Nat × FieldType × Bool) := [(12, 10, 0, .object "GalleryGuards$Input", true), (19, 10, 2, .object "GalleryGuards$Plan", true), (23, 10, 3, .object "GalleryGuards$Plan", true), (29, 10, 4, .object "GalleryGuards$Lattice", true), (33, 10, 5, .object "GalleryGuards$Lattice", true), (41, 10, 1, .object "GalleryGuards$Parse\x72", true), (50, 10, 6, .object "GalleryGuards$Sight", true), (59, 10, 7, .object "GalleryGuards$Triangulation", true), (68, 10, 8, .object "GalleryGuards$CoverSearch", true), (77, 10, 9, .object "GalleryGuards$SpreadSearch", true), (84, 10, 10, .object "GalleryGuards$Watch", true), (91, 10, 11, .object "GalleryGuards$History", true), (95, 10, 12, .object "GalleryGuards$Plan", true), (98, 10, 13, .object "GalleryGuards$Plan", true), (101, 10, 14, .array .int, true), (105, 10, 15, .boolean, false), (109, 10, 16, .int, false), (113, 10, 17, .int, false), (116, 2, 0, .int, false), (134, 2, 2, .int, false), (149, 3, 0, .int, false), (152, 5, 0, .int, false), (192, 3, 1, .long, false), (262, 5, 1, .int, false), (295, 5, 2, .int, false), (348, 1, 0, .int, false)]
theorem ofl_11_ok : ∀ e ∈ ofl_11, FgE RX11 e := (fm_c ⟨true, fg_X11_12⟩ (fm_c ⟨true, fg_X11_19⟩ (fm_c ⟨true, fg_X11_23⟩ (fm_c ⟨true, fg_X11_29⟩ (fm_c ⟨true, fg_X11_33⟩ (fm_c ⟨true, fg_X11_41⟩ (fm_c ⟨true, fg_X11_50⟩ (fm_c ⟨true, fg_X11_59⟩ (fm_c ⟨true, fg_X11_68⟩ (fm_c ⟨true, fg_X11_77⟩ (fm_c ⟨true, fg_X11_84⟩ (fm_c ⟨true, fg_X11_91⟩ (fm_c ⟨true, fg_X11_95⟩ (fm_c ⟨true, fg_X11_98⟩ (fm_c ⟨true, fg_X11_101⟩ (fm_c ⟨true, fg_X11_105⟩ (fm_c ⟨true, fg_X11_109⟩ (fm_c ⟨true, fg_X11_113⟩ (fm_c ⟨false, fg_X11_116⟩ (fm_c ⟨false, fg_X11_134⟩ (fm_c ⟨false, fg_X11_149⟩ (fm_c ⟨false, fg_X11_152⟩ (fm_c ⟨false, fg_X11_192⟩ (fm_c ⟨false, fg_X11_262⟩ (fm_c ⟨false, fg_X11_295⟩ (fm_c ⟨false, fg_X11_348⟩ fm_n))))))))))))))))))))))))))
def oil_11 : List (Nat × Int32) := []
theorem oil_11_ok : ∀ e ∈ oil_11, Cond.constant RX11 e.1 e.2 ∈ Big := fm_n
def oll_11 : List (Nat × Int64) := [(280, (-1 : Int64))]
theorem oll_11_ok : ∀ e ∈ oll_11, Cond.constantLong RX11 e.1 e.2 ∈ Big := (fm_c w_186 fm_n)
def ocl_11 : List (Nat × Nat × Nat × Nat × Nat) := [(119, 11, 0, 1, 2), (130, 35, 0, 1, 4), (142, 8, 0, 0, 1), (145, 42, 0, 0, 5), (146, 180, 0, 1, 10), (155, 174, 0, 0, 10), (158, 175, 1, 2, 0), (162, 44, 0, 1, 5), (165, 45, 0, 1, 5), (168, 25, 1, 1, 0), (179, 26, 1, 1, 0), (182, 19, 0, 1, 3), (185, 20, 0, 1, 3), (188, 18, 0, 2, 3), (196, 66, 0, 0, 6), (199, 73, 0, 1, 6), (203, 177, 1, 2, 0), (207, 76, 0, 0, 6), (211, 77, 0, 2, 6), (214, 79, 0, 0, 6), (218, 78, 0, 1, 6), (221, 75, 0, 1, 6), (224, 176, 1, 3, 0), (228, 95, 0, 0, 8), (229, 90, 0, 2, 8), (232, 91, 0, 1, 8), (235, 92, 0, 1, 8), (238, 93, 0, 0, 8), (241, 1, 0, 0, 0), (244, 2, 0, 0, 0), (247, 5, 0, 0, 0), (250, 6, 0, 1, 0), (253, 81, 0, 0, 7), (256, 82, 0, 1, 7), (259, 84, 0, 0, 7), (265, 104, 0, 1, 9), (268, 54, 0, 1, 5), (271, 107, 0, 1, 9), (274, 21, 0, 0, 3), (277, 108, 0, 1, 9), (282, 109, 0, 1, 9), (285, 110, 0, 0, 9), (288, 111, 0, 1, 9), (292, 112, 0, 0, 9), (298, 105, 0, 1, 9), (301, 113, 0, 1, 9), (304, 114, 0, 0, 9), (307, 181, 0, 3, 10), (316, 9, 0, 1, 1), (319, 55, 0, 3, 5), (322, 58, 0, 1, 5), (325, 56, 0, 3, 5), (328, 57, 0, 2, 5), (331, 43, 0, 1, 5), (334, 49, 0, 3, 5), (337, 179, 0, 0, 10), (342, 48, 0, 3, 5), (345, 50, 0, 1, 5), (351, 10, 0, 1, 1), (354, 178, 0, 1, 10), (366, 27, 1, 1, 0), (370, 17, 0, 1, 3), (373, 22, 0, 1, 3), (378, 65, 0, 0, 6), (381, 89, 0, 0, 8), (382, 0, 0, 0, 0), (383, 80, 0, 0, 7), (384, 59, 0, 2, 5), (388, 64, 0, 2, 5), (391, 51, 0, 2, 5)]
def ofl_12 : List (Nat × Nat × Nat × FieldType × Bool) := [(7, 11, 2, .array .int, true), (13, 11, 3, .array .int, true), (16, 11, 5, .array .boolean, true), (20, 11, 6, .array .int, true), (23, 11, 9, .int, false), (27, 11, 14, .array .int, true), (30, 11, 19, .array .int, true), (33, 11, 21, .array .int, true), (36, 11, 22, .array .int, true), (39, 11, 23, .array .int, true), (42, 11, 24, .array .long, true), (46, 11, 25, .array .long, true), (49, 11, 26, .array .long, true), (52, 11, 28, .array .long, true), (55, 11, 29, .array .long, true), (58, 11, 30, .array .int, true), (61, 11, 31, .array .int, true), (64, 11, 32, .array .int, true), (67, 11, 33, .array .int, true), (70, 11, 35, .array .int, true), (73, 11, 37, .array .int, true), (76, 11, 39, .array .int, true), (79, 11, 0, .int, false), (82, 11, 1, .boolean, false), (90, 11, 7, .int, false), (93, 11, 8, .int, false), (96, 11, 10, .int, false), (99, 11, 11, .int, false), (106, 11, 12, .int, false), (109, 11, 13, .int, false), (116, 11, 15, .int, false), (122, 11, 16, .int, false), (125, 11, 17, .int, false), (128, 11, 18, .int, false), (192, 11, 4, .int, false), (195, 11, 27, .boolean, false), (201, 11, 20, .int, false), (269, 11, 34, .int, false), (272, 11, 36, .int, false), (337, 11, 38, .int, false), (370, 11, 40, .boolean, false)]
theorem ofl_12_ok : ∀ e ∈ ofl_12, FgE RX12 e := (fm_c ⟨true, fg_X12_7⟩ (fm_c ⟨true, fg_X12_13⟩ (fm_c ⟨true, fg_X12_16⟩ (fm_c ⟨true, fg_X12_20⟩ (fm_c ⟨true, fg_X12_23⟩ (fm_c ⟨true, fg_X12_27⟩ (fm_c ⟨true, fg_X12_30⟩ (fm_c ⟨true, fg_X12_33⟩ (fm_c ⟨true, fg_X12_36⟩ (fm_c ⟨true, fg_X12_39⟩ (fm_c ⟨true, fg_X12_42⟩ (fm_c ⟨true, fg_X12_46⟩ (fm_c ⟨true, fg_X12_49⟩ (fm_c ⟨true, fg_X12_52⟩ (fm_c ⟨true, fg_X12_55⟩ (fm_c ⟨true, fg_X12_58⟩ (fm_c ⟨true, fg_X12_61⟩ (fm_c ⟨true, fg_X12_64⟩ (fm_c ⟨true, fg_X12_67⟩ (fm_c ⟨true, fg_X12_70⟩ (fm_c ⟨true, fg_X12_73⟩ (fm_c ⟨true, fg_X12_76⟩ (fm_c ⟨true, fg_X12_79⟩ (fm_c ⟨true, fg_X12_82⟩ (fm_c ⟨true, fg_X12_90⟩ (fm_c ⟨true, fg_X12_93⟩ (fm_c ⟨true, fg_X12_96⟩ (fm_c ⟨true, fg_X12_99⟩ (fm_c ⟨true, fg_X12_106⟩ (fm_c ⟨true, fg_X12_109⟩ (fm_c ⟨true, fg_X12_116⟩ (fm_c ⟨true, fg_X12_122⟩ (fm_c ⟨true, fg_X12_125⟩ (fm_c ⟨true, fg_X12_128⟩ (fm_c ⟨true, fg_X12_192⟩ (fm_c ⟨true, fg_X12_195⟩ (fm_c ⟨true, fg_X12_201⟩ (fm_c ⟨true, fg_X12_269⟩ (fm_c ⟨true, fg_X12_272⟩ (fm_c ⟨true, fg_X12_337⟩ (fm_c ⟨true, fg_X12_370⟩ fm_n)))))))))))))))))))))))))))))))))))))))))
def oil_12 : List (Nat × Int32) := []
theorem oil_12_ok : ∀ e ∈ oil_12, Cond.constant RX12 e.1 e.2 ∈ Big := fm_n
def oll_12 : List (Nat × Int64) := [(242, (-1 : Int64)), (267, (2 : Int64))]
theorem oll_12_ok : ∀ e ∈ oll_12, Cond.constantLong RX12 e.1 e.2 ∈ Big := (fm_c w_269 (fm_c w_270 fm_n))
def ocl_12 : List (Nat × Nat × Nat × Nat × Nat) := [(86, 183, 0, 2, 11), (102, 189, 0, 1, 11), (112, 190, 1, 1, 0), (119, 191, 1, 1, 0), (131, 192, 0, 0, 11), (144, 193, 0, 1, 11), (148, 182, 1, 3, 0), (152, 196, 0, 2, 11), (156, 194, 0, 0, 11), (161, 195, 0, 1, 11), (165, 197, 0, 2, 11), (168, 213, 1, 1, 0), (172, 208, 1, 4, 0), (178, 198, 0, 0, 11), (185, 199, 0, 1, 11), (189, 200, 0, 1, 11), (198, 214, 0, 0, 11), (204, 202, 1, 6, 0), (208, 204, 1, 2, 0), (212, 205, 1, 6, 0), (216, 206, 1, 5, 0), (220, 207, 1, 4, 0), (223, 203, 1, 1, 0), (227, 210, 1, 2, 0), (231, 209, 1, 3, 0), (235, 211, 1, 1, 0), (238, 212, 1, 1, 0), (244, 219, 0, 1, 11), (247, 184, 0, 0, 11), (251, 225, 0, 1, 11), (254, 226, 0, 1, 11), (257, 215, 0, 2, 11), (260, 233, 0, 0, 11), (263, 235, 0, 3, 11), (275, 238, 0, 5, 11), (279, 239, 0, 0, 11), (282, 217, 1, 2, 0), (286, 216, 0, 0, 11), (290, 244, 0, 1, 11), (293, 249, 0, 2, 11), (297, 250, 0, 4, 11), (301, 252, 0, 1, 11), (304, 251, 0, 0, 11), (307, 255, 0, 0, 11), (310, 257, 0, 1, 11), (313, 218, 1, 1, 0), (316, 240, 0, 1, 11), (319, 259, 0, 1, 11), (323, 262, 0, 4, 11), (327, 263, 0, 0, 11), (329, 266, 0, 4, 11), (332, 267, 0, 0, 11), (334, 270, 1, 1, 0), (340, 271, 0, 1, 11), (343, 272, 0, 2, 11), (347, 274, 0, 2, 11), (349, 275, 0, 3, 11), (353, 276, 0, 1, 11), (356, 227, 0, 1, 11), (359, 277, 0, 1, 11), (362, 284, 0, 1, 11), (365, 287, 0, 2, 11), (367, 289, 0, 1, 11), (373, 292, 0, 2, 11), (376, 293, 0, 2, 11), (379, 294, 0, 2, 11), (382, 297, 0, 1, 11), (385, 299, 0, 0, 11), (388, 306, 0, 2, 11), (391, 305, 0, 0, 11), (394, 304, 0, 0, 11), (397, 298, 0, 1, 11)]
def ofl_13 : List (Nat × Nat × Nat × FieldType × Bool) := []
theorem ofl_13_ok : ∀ e ∈ ofl_13, FgE RL e := fm_n
def oil_13 : List (Nat × Int32) := []
theorem oil_13_ok : ∀ e ∈ oil_13, Cond.constant RL e.1 e.2 ∈ Big := fm_n
def oll_13 : List (Nat × Int64) := []
theorem oll_13_ok : ∀ e ∈ oll_13, Cond.constantLong RL e.1 e.2 ∈ Big := fm_n
def ocl_13 : List (Nat × Nat × Nat × Nat × Nat) := [(7, 116, 0, 1, 10), (17, 121, 0, 1, 10), (22, 122, 0, 1, 10), (25, 123, 0, 0, 10), (29, 124, 0, 0, 10), (32, 126, 0, 1, 10), (35, 127, 0, 1, 10), (38, 128, 0, 2, 10), (42, 129, 0, 0, 10), (46, 130, 0, 2, 10), (50, 131, 0, 1, 10), (54, 132, 0, 0, 10), (57, 133, 0, 2, 10), (60, 134, 0, 0, 10), (63, 135, 0, 1, 10), (66, 136, 0, 1, 10), (69, 137, 0, 2, 10), (72, 138, 0, 1, 10), (75, 139, 0, 1, 10), (78, 140, 0, 0, 10), (81, 141, 0, 0, 10), (84, 142, 0, 0, 10), (87, 143, 0, 0, 10), (90, 144, 0, 1, 10), (93, 145, 0, 0, 10), (96, 146, 0, 1, 10), (99, 147, 0, 0, 10), (102, 149, 0, 1, 10), (105, 150, 0, 1, 10), (108, 151, 0, 1, 10), (111, 152, 0, 0, 10), (114, 153, 0, 1, 10), (117, 154, 0, 0, 10), (120, 155, 0, 0, 10), (123, 156, 0, 0, 10), (126, 158, 0, 1, 10), (129, 159, 0, 0, 10), (132, 160, 0, 0, 10), (135, 161, 0, 1, 10), (138, 162, 0, 1, 10), (141, 163, 0, 2, 10), (144, 164, 0, 1, 10), (147, 165, 0, 2, 10), (150, 166, 0, 2, 10), (153, 167, 0, 3, 10), (157, 168, 0, 3, 10), (160, 169, 0, 1, 10), (163, 170, 0, 0, 10), (166, 172, 0, 1, 10), (169, 173, 0, 1, 10)]
def ofl_14 : List (Nat × Nat × Nat × FieldType × Bool) := []
theorem ofl_14_ok : ∀ e ∈ ofl_14, FgE RJ6 e := fm_n
def oil_14 : List (Nat × Int32) := [(264, (65536 : Int32)), (265, (1431655765 : Int32)), (266, (858993459 : Int32)), (267, (252645135 : Int32))]
theorem oil_14_ok : ∀ e ∈ oil_14, Cond.constant RJ6 e.1 e.2 ∈ Big := (fm_c w_271 (fm_c w_272 (fm_c w_273 (fm_c w_274 fm_n))))
def oll_14 : List (Nat × Int64) := []
theorem oll_14_ok : ∀ e ∈ oll_14, Cond.constantLong RJ6 e.1 e.2 ∈ Big := fm_n
def ocl_14 : List (Nat × Nat × Nat × Nat × Nat) := []
def ofl_15 : List (Nat × Nat × Nat × FieldType × Bool) := []
theorem ofl_15_ok : ∀ e ∈ ofl_15, FgE RJ13 e := fm_n
def oil_15 : List (Nat × Int32) := []
theorem oil_15_ok : ∀ e ∈ oil_15, Cond.constant RJ13 e.1 e.2 ∈ Big := fm_n
def oll_15 : List (Nat × Int64) := [(314, (6148914691236517205 : Int64)), (316, (3689348814741910323 : Int64)), (318, (1085102592571150095 : Int64))]
theorem oll_15_ok : ∀ e ∈ oll_15, Cond.constantLong RJ13 e.1 e.2 ∈ Big := (fm_c w_275 (fm_c w_276 (fm_c w_277 fm_n)))
def ocl_15 : List (Nat × Nat × Nat × Nat × Nat) := [(311, 363, 1, 1, 0)]
abbrev OTT : Type := List (Nat × Nat × Nat × FieldType × Bool) × List (Nat × Int32) × List (Nat × Int64) × List (Nat × Nat × Nat × Nat × Nat)
def OT : List OTT := [(ofl_0, oil_0, oll_0, ocl_0), (ofl_1, oil_1, oll_1, ocl_1), (ofl_2, oil_2, oll_2, ocl_2), (ofl_3, oil_3, oll_3, ocl_3), (ofl_4, oil_4, oll_4, ocl_4), (ofl_5, oil_5, oll_5, ocl_5), (ofl_6, oil_6, oll_6, ocl_6), (ofl_7, oil_7, oll_7, ocl_7), (ofl_8, oil_8, oll_8, ocl_8), (ofl_9, oil_9, oll_9, ocl_9), (ofl_10, oil_10, oll_10, ocl_10), (ofl_11, oil_11, oll_11, ocl_11), (ofl_12, oil_12, oll_12, ocl_12), (ofl_13, oil_13, oll_13, ocl_13), (ofl_14, oil_14, oll_14, ocl_14), (ofl_15, oil_15, oll_15, ocl_15)]
def ON : List String := [RX0, RX1, RX2, RX3, RX4, RX5, RX6, RX7, RX8, RX9, RX10, RX11, RX12, RL, RJ6, RJ13]
def ot (o : Nat) : OTT := (OT[o]?).getD ([], [], [], [])
def lkp {α : Type} (l : List (Nat × α)) (ix : Nat) : Option α := (l.find? (fun e => e.1 == ix)).map (fun e => e.2)
theorem lkp_mem {α : Type} {l : List (Nat × α)} {ix : Nat} {v : α} (h : lkp l ix = some v) : (ix, v) ∈ l := by
  unfold lkp at h
  cases hf : l.find? (fun e => e.1 == ix) with
  | none => rw [hf] at h; cases h
  | some q =>
    rw [hf] at h
    have h1 := List.mem_of_find?_eq_some hf
    have h2 := List.find?_some hf
    simp at h2
    cases h
    subst h2
    exact h1
def lkO (o : Nat) : LK := (lkp (ot o).1, lkp (ot o).2.1, lkp (ot o).2.2.1)
def okO (own : String) (t : OTT) : Prop := (∀ e ∈ t.1, FgE own e) ∧ (∀ e ∈ t.2.1, Cond.constant own e.1 e.2 ∈ Big) ∧ ∀ e ∈ t.2.2.1, Cond.constantLong own e.1 e.2 ∈ Big
theorem lk_of {own : String} {o : Nat} (h : okO own (ot o)) : lkOK own (lkO o) := ⟨fun idx ci k ty fin hk => h.1 _ (lkp_mem hk), fun idx v hv => h.2.1 _ (lkp_mem hv), fun idx v hv => h.2.2 _ (lkp_mem hv)⟩
theorem ot_ok : ∀ (o : Nat) (own : String), ON[o]? = some own → okO own (ot o) := by
  intro o own h
  match o, h with
  | 0, h => cases h; exact ⟨ofl_0_ok, oil_0_ok, oll_0_ok⟩
  | 1, h => cases h; exact ⟨ofl_1_ok, oil_1_ok, oll_1_ok⟩
  | 2, h => cases h; exact ⟨ofl_2_ok, oil_2_ok, oll_2_ok⟩
  | 3, h => cases h; exact ⟨ofl_3_ok, oil_3_ok, oll_3_ok⟩
  | 4, h => cases h; exact ⟨ofl_4_ok, oil_4_ok, oll_4_ok⟩
  | 5, h => cases h; exact ⟨ofl_5_ok, oil_5_ok, oll_5_ok⟩
  | 6, h => cases h; exact ⟨ofl_6_ok, oil_6_ok, oll_6_ok⟩
  | 7, h => cases h; exact ⟨ofl_7_ok, oil_7_ok, oll_7_ok⟩
  | 8, h => cases h; exact ⟨ofl_8_ok, oil_8_ok, oll_8_ok⟩
  | 9, h => cases h; exact ⟨ofl_9_ok, oil_9_ok, oll_9_ok⟩
  | 10, h => cases h; exact ⟨ofl_10_ok, oil_10_ok, oll_10_ok⟩
  | 11, h => cases h; exact ⟨ofl_11_ok, oil_11_ok, oll_11_ok⟩
  | 12, h => cases h; exact ⟨ofl_12_ok, oil_12_ok, oll_12_ok⟩
  | 13, h => cases h; exact ⟨ofl_13_ok, oil_13_ok, oll_13_ok⟩
  | 14, h => cases h; exact ⟨ofl_14_ok, oil_14_ok, oll_14_ok⟩
  | 15, h => cases h; exact ⟨ofl_15_ok, oil_15_ok, oll_15_ok⟩
  | n + 16, h => exact absurd h (by rw [show ON[n + 16]? = none from rfl]; exact fun q => nomatch q)
