/-! cut out of the base by slice.py: a2.base -/
-- k03.names
def RX5 : String := "GalleryGuards$Parse\x72"
def RX11 : String := "GalleryGuards"
def RX12 : String := "GalleryGuardsModel"
-- k05.base
/-- the texts that are loaded: class, place, text -/
def strs : List (String × Nat × String) := [(RX11, 125, "not so many bytes in the buffe\x72"), (RX11, 139, "the text has an erro\x72"), (RX11, 313, "there are 6 guards"), (RX11, 340, "there are 12 vertices"), (RX11, 349, "no change can be undone"), (RX11, 358, "nothing is saved there"), (RX11, 360, "no polygon"), (RX11, 362, "no such index"), (RX11, 364, "argument out of range"), (RX11, 376, "this change of the polygon is not possible"), (RX5, 41, "polygon"), (RX5, 83, "guard"), (RX5, 91, "treasure"), (RX5, 99, "range"), (RX12, 159, "polygon"), (RX12, 176, "range"), (RX12, 181, "guard"), (RX12, 183, "treasure")]
/-- the texts' letters, by the places of strs -/
def TXS : List (List Int32) := [[110, 111, 116, 32, 115, 111, 32, 109, 97, 110, 121, 32, 98, 121, 116, 101, 115, 32, 105, 110, 32, 116, 104, 101, 32, 98, 117, 102, 102, 101, 114], [116, 104, 101, 32, 116, 101, 120, 116, 32, 104, 97, 115, 32, 97, 110, 32, 101, 114, 114, 111, 114], [116, 104, 101, 114, 101, 32, 97, 114, 101, 32, 54, 32, 103, 117, 97, 114, 100, 115], [116, 104, 101, 114, 101, 32, 97, 114, 101, 32, 49, 50, 32, 118, 101, 114, 116, 105, 99, 101, 115], [110, 111, 32, 99, 104, 97, 110, 103, 101, 32, 99, 97, 110, 32, 98, 101, 32, 117, 110, 100, 111, 110, 101], [110, 111, 116, 104, 105, 110, 103, 32, 105, 115, 32, 115, 97, 118, 101, 100, 32, 116, 104, 101, 114, 101], [110, 111, 32, 112, 111, 108, 121, 103, 111, 110], [110, 111, 32, 115, 117, 99, 104, 32, 105, 110, 100, 101, 120], [97, 114, 103, 117, 109, 101, 110, 116, 32, 111, 117, 116, 32, 111, 102, 32, 114, 97, 110, 103, 101], [116, 104, 105, 115, 32, 99, 104, 97, 110, 103, 101, 32, 111, 102, 32, 116, 104, 101, 32, 112, 111, 108, 121, 103, 111, 110, 32, 105, 115, 32, 110, 111, 116, 32, 112, 111, 115, 115, 105, 98, 108, 101], [112, 111, 108, 121, 103, 111, 110], [103, 117, 97, 114, 100], [116, 114, 101, 97, 115, 117, 114, 101], [114, 97, 110, 103, 101], [112, 111, 108, 121, 103, 111, 110], [114, 97, 110, 103, 101], [103, 117, 97, 114, 100], [116, 114, 101, 97, 115, 117, 114, 101]]
/-- words of the tables that are kept by themselves -/
def odd : List Cond := [.castable "java/lang/IllegalStateException" "java/lang/IllegalStateException", .castable "java/lang/IndexOutOfBoundsException" "java/lang/IndexOutOfBoundsException", .castable "java/lang/IllegalArgumentException" "java/lang/IllegalArgumentException", .declares ⟨"java/lang/RuntimeException", "<init>", "(Ljava/lang/String;)V"⟩, .declares ⟨"java/lang/Exception", "<init>", "(Ljava/lang/String;)V"⟩, .declares ⟨"java/lang/Throwable", "<init>", "(Ljava/lang/String;)V"⟩]
-- l1.heap
/-! an abstract heap: cells by their handles (places in a list), references are handles; 'ad' gives the addresses, 'cs' the classes of the arrays -/
abbrev LV : Type := List (Nat × Value)
abbrev SG : Type := List va_E
-- l2.sim
/-! the simple steps as a function on the abstract state; links: fields (class, place, type, final), int and long constants, by their places in the pool -/
abbrev LK : Type := (Nat → Option (Nat × Nat × FieldType × Bool)) × (Nat → Option Int32) × (Nat → Option Int64)
def lcm3 (x y : Int64) : Int32 := if y < x then 1 else if x = y then 0 else -1
def inN (i : Int32) (n : Nat) : Bool := decide (¬ i < 0) && decide (i.toNatClampNeg < n)
def bI : Instr → Int32 → Int32 → Option Int32
  | .iadd, x, y => some (x + y)
  | .isub, x, y => some (x - y)
  | .imul, x, y => some (x * y)
  | .iand, x, y => some (x &&& y)
  | .ior, x, y => some (x ||| y)
  | .ixor, x, y => some (x ^^^ y)
  | .idiv, x, y => if y = 0 then none else some (x / y)
  | .irem, x, y => if y = 0 then none else some (x - x / y * y)
  | .ishl, x, y => some (x <<< (y &&& 31))
  | .ishr, x, y => some (x >>> (y &&& 31))
  | .iushr, x, y => some (x.toUInt32 >>> (y.toUInt32 &&& Int32.toUInt32 31)).toInt32
  | _, _, _ => none
def bL : Instr → Int64 → Int64 → Option Int64
  | .ladd, x, y => some (x + y)
  | .lsub, x, y => some (x - y)
  | .lmul, x, y => some (x * y)
  | .land, x, y => some (x &&& y)
  | .lor, x, y => some (x ||| y)
  | .lxor, x, y => some (x ^^^ y)
  | _, _, _ => none
def sL : Instr → Int64 → Int32 → Option Int64
  | .lshl, x, y => some (x <<< (y.toInt64 &&& 63))
  | .lshr, x, y => some (x >>> (y.toInt64 &&& 63))
  | .lushr, x, y => some (x.toUInt64 >>> (y.toInt64.toUInt64 &&& Int64.toUInt64 63)).toInt64
  | _, _, _ => none
/-- the state between two steps: place, locals, stack, heap -/
abbrev S4 : Type := Nat × LV × List Value × SG
def simD (pc : Nat) (i : Instr) (lv : LV) (st : List Value) (σ : SG) : Option S4 := match i with
  | .dup => match st with
    | v :: r => if v.category = 1 then some (pc + 1, lv, v :: v :: r, σ) else none
    | [] => none
  | .pop => match st with
    | v :: r => if v.category = 1 then some (pc + 1, lv, r, σ) else none
    | [] => none
  | .dup_x1 => match st with
    | v :: w :: r => if v.category = 1 ∧ w.category = 1 then some (pc + 1, lv, v :: w :: v :: r, σ) else none
    | _ => none
  | .dup2 => match st with
    | v :: w :: r => if v.category = 1 ∧ w.category = 1 then some (pc + 1, lv, v :: w :: v :: w :: r, σ) else none
    | _ => none
  | _ => none
def simU (pc : Nat) (i : Instr) (lv : LV) (st : List Value) (σ : SG) : Option S4 := match i with
  | .ineg => match st with
    | .int x :: r => some (pc + 1, lv, .int (-x) :: r, σ)
    | _ => none
  | .i2l => match st with
    | .int x :: r => some (pc + 1, lv, .long x.toInt64 :: r, σ)
    | _ => none
  | .l2i => match st with
    | .long x :: r => some (pc + 1, lv, .int x.toInt32 :: r, σ)
    | _ => none
  | .i2c => match st with
    | .int x :: r => some (pc + 1, lv, .int (x.toUInt32 % 65536).toInt32 :: r, σ)
    | _ => none
  | .lcmp => match st with
    | .long y :: .long x :: r => some (pc + 1, lv, .int (lcm3 x y) :: r, σ)
    | _ => none
  | _ => none
def simA (pc : Nat) (i : Instr) (lv : LV) (st : List Value) (σ : SG) : Option S4 := match st with
  | .int y :: .int x :: r => match bI i x y with
    | some v => some (pc + 1, lv, .int v :: r, σ)
    | none => none
  | .long y :: .long x :: r => match bL i x y with
    | some v => some (pc + 1, lv, .long v :: r, σ)
    | none => none
  | .int y :: .long x :: r => match sL i x y with
    | some v => some (pc + 1, lv, .long v :: r, σ)
    | none => none
  | _ => none
-- l3.ev
/-! the whole machine as a function: fuel, depth of calls, method, place, locals, stack, exceptions made so far, heap -/
abbrev MI : Type := MethodName × ByteArray × Nat × Option FieldType × List (Nat × Nat × Nat × Nat)
abbrev OC : Type := String ⊕ Option Value
-- m03.own
def ofl_0 : List (Nat × Nat × Nat × FieldType × Bool) := [(9, 0, 3, .array .long, true), (15, 0, 4, .array .long, true), (18, 0, 5, .array .int, true), (22, 0, 6, .int, false), (26, 0, 7, .int, false), (29, 0, 8, .int, false), (32, 0, 0, .object "GalleryGuards$Plan", true), (36, 0, 1, .object "GalleryGuards$Lattice", true), (40, 0, 2, .object "GalleryGuards$Sight", true), (44, 5, 0, .int, false), (100, 3, 0, .int, false)]
def oil_0 : List (Nat × Int32) := []
def oll_0 : List (Nat × Int64) := [(103, (-1 : Int64))]
def ocl_0 : List (Nat × Nat × Nat × Nat × Nat) := [(49, 44, 0, 1, 5), (53, 45, 0, 1, 5), (56, 18, 0, 2, 3), (62, 73, 0, 1, 6), (68, 3, 0, 0, 0), (72, 75, 0, 1, 6), (80, 364, 1, 1, 0), (85, 4, 0, 1, 0), (88, 21, 0, 0, 3), (92, 177, 2, 2, 0), (96, 7, 0, 4, 0)]
def ofl_1 : List (Nat × Nat × Nat × FieldType × Bool) := [(9, 1, 0, .int, false), (15, 1, 1, .int, false), (20, 1, 2, .array (.object "GalleryGuards$Plan"), true)]
def oil_1 : List (Nat × Int32) := []
def oll_1 : List (Nat × Int64) := []
def ocl_1 : List (Nat × Nat × Nat × Nat × Nat) := [(25, 43, 0, 1, 5)]
def ofl_2 : List (Nat × Nat × Nat × FieldType × Bool) := [(9, 2, 0, .int, false), (15, 2, 1, .int, false), (18, 2, 2, .int, false), (21, 2, 3, .int, false), (24, 2, 4, .int, false), (27, 2, 5, .int, false), (30, 2, 6, .array .int, true)]
def oil_2 : List (Nat × Int32) := []
def oll_2 : List (Nat × Int64) := []
def ocl_2 : List (Nat × Nat × Nat × Nat × Nat) := [(34, 13, 0, 0, 2), (37, 14, 0, 3, 2), (41, 15, 0, 0, 2)]
def ofl_3 : List (Nat × Nat × Nat × FieldType × Bool) := [(9, 3, 0, .int, false), (15, 3, 1, .long, false), (19, 3, 2, .array .int, true), (23, 3, 3, .array .int, true), (26, 3, 4, .array .int, true), (37, 5, 1, .int, false), (53, 5, 2, .int, false)]
def oil_3 : List (Nat × Int32) := []
def oll_3 : List (Nat × Int64) := [(35, (-1 : Int64))]
def ocl_3 : List (Nat × Nat × Nat × Nat × Nat) := [(29, 33, 1, 3, 0), (42, 52, 0, 1, 5), (46, 53, 0, 1, 5), (49, 18, 0, 2, 3), (56, 60, 0, 1, 5), (59, 61, 0, 1, 5)]
def ofl_4 : List (Nat × Nat × Nat × FieldType × Bool) := [(24, 5, 0, .int, false)]
def oil_4 : List (Nat × Int32) := []
def oll_4 : List (Nat × Int64) := []
def ocl_4 : List (Nat × Nat × Nat × Nat × Nat) := [(9, 44, 0, 1, 5), (15, 45, 0, 1, 5), (18, 23, 1, 6, 0), (28, 46, 0, 1, 5), (31, 25, 1, 1, 0), (35, 47, 0, 1, 5), (38, 24, 1, 4, 0), (42, 28, 1, 2, 0), (46, 29, 1, 3, 0), (50, 30, 1, 6, 0), (54, 32, 1, 5, 0), (58, 31, 1, 2, 0), (71, 34, 1, 4, 0)]
def ofl_5 : List (Nat × Nat × Nat × FieldType × Bool) := [(9, 4, 3, .int, false), (15, 4, 4, .int, false), (18, 4, 0, .object "GalleryGuards$Input", true), (22, 4, 1, .object "GalleryGuards$Plan", true), (26, 4, 2, .object "GalleryGuards$Lattice", true), (57, 2, 1, .int, false), (85, 5, 1, .int, false), (93, 5, 2, .int, false), (101, 2, 3, .int, false)]
def oil_5 : List (Nat × Int32) := []
def oll_5 : List (Nat × Int64) := []
def ocl_5 : List (Nat × Nat × Nat × Nat × Nat) := [(30, 42, 0, 0, 5), (35, 12, 0, 1, 2), (43, 16, 0, 1, 2), (47, 13, 0, 0, 2), (50, 36, 0, 0, 4), (54, 37, 0, 0, 4), (60, 27, 1, 1, 0), (66, 17, 0, 1, 3), (71, 41, 0, 2, 4), (75, 40, 0, 1, 4), (79, 48, 0, 3, 5), (88, 38, 0, 0, 4), (96, 39, 0, 0, 4), (104, 55, 0, 3, 5), (107, 63, 0, 3, 5), (110, 18, 0, 2, 3)]
def ofl_6 : List (Nat × Nat × Nat × FieldType × Bool) := [(9, 5, 0, .int, false), (15, 5, 1, .int, false), (18, 5, 2, .int, false), (21, 5, 3, .array .int, true), (25, 5, 4, .array .int, true), (28, 5, 5, .array .int, true), (31, 5, 6, .array .int, true), (34, 5, 7, .array .int, true), (37, 5, 8, .array .int, true), (40, 5, 9, .array .int, true), (43, 5, 10, .array .int, true)]
def oil_6 : List (Nat × Int32) := []
def oll_6 : List (Nat × Int64) := []
def ocl_6 : List (Nat × Nat × Nat × Nat × Nat) := []
def ofl_7 : List (Nat × Nat × Nat × FieldType × Bool) := [(9, 6, 2, .array .long, true), (15, 6, 3, .boolean, false), (19, 6, 0, .object "GalleryGuards$Plan", true), (23, 6, 1, .object "GalleryGuards$Lattice", true), (31, 3, 0, .int, false), (56, 5, 0, .int, false)]
def oil_7 : List (Nat × Int32) := []
def oll_7 : List (Nat × Int64) := [(104, (-1 : Int64))]
def ocl_7 : List (Nat × Nat × Nat × Nat × Nat) := [(27, 67, 0, 1, 6), (37, 19, 0, 1, 3), (41, 20, 0, 1, 3), (44, 70, 1, 2, 0), (48, 69, 0, 3, 6), (52, 68, 0, 2, 6), (61, 30, 1, 6, 0), (67, 33, 1, 3, 0), (71, 18, 0, 2, 3), (74, 177, 2, 2, 0), (78, 21, 0, 0, 3), (87, 72, 0, 0, 6), (91, 32, 1, 5, 0), (95, 74, 0, 1, 6), (99, 73, 0, 1, 6), (103, 71, 0, 0, 6), (106, 365, 1, 1, 0), (112, 78, 0, 1, 6), (115, 77, 0, 2, 6)]
def ofl_8 : List (Nat × Nat × Nat × FieldType × Bool) := [(9, 7, 1, .array .long, true), (15, 7, 2, .array .int, true), (19, 7, 3, .int, false), (23, 7, 4, .int, false), (26, 7, 0, .object "GalleryGuards$Sight", true)]
def oil_8 : List (Nat × Int32) := []
def oll_8 : List (Nat × Int64) := [(58, (-1 : Int64))]
def ocl_8 : List (Nat × Nat × Nat × Nat × Nat) := [(30, 73, 0, 1, 6), (36, 74, 0, 1, 6), (40, 71, 0, 0, 6), (44, 83, 0, 3, 7), (48, 177, 2, 2, 0), (52, 366, 1, 1, 0), (60, 85, 0, 2, 7), (64, 86, 0, 1, 7), (67, 88, 0, 1, 7), (76, 87, 0, 2, 7)]
def ofl_9 : List (Nat × Nat × Nat × FieldType × Bool) := [(9, 8, 1, .array .int, true), (15, 8, 2, .array .int, true), (18, 8, 3, .array .int, true), (21, 8, 4, .array .int, true), (24, 8, 5, .array .int, true), (27, 8, 6, .array .int, true), (30, 8, 7, .int, false), (34, 8, 8, .boolean, false), (38, 8, 0, .object "GalleryGuards$Plan", true), (66, 5, 0, .int, false)]
def oil_9 : List (Nat × Int32) := []
def oll_9 : List (Nat × Int64) := []
def ocl_9 : List (Nat × Nat × Nat × Nat × Nat) := [(42, 90, 0, 2, 8), (46, 24, 1, 4, 0), (58, 94, 0, 1, 8), (61, 364, 1, 1, 0), (71, 92, 0, 1, 8), (77, 25, 1, 1, 0), (81, 96, 0, 1, 8), (85, 100, 0, 2, 8), (89, 101, 0, 1, 8), (93, 97, 0, 1, 8), (96, 98, 0, 1, 8), (100, 99, 0, 4, 8), (107, 102, 0, 2, 8), (110, 103, 0, 1, 8)]
def ofl_10 : List (Nat × Nat × Nat × FieldType × Bool) := [(9, 9, 0, .object "GalleryGuards$Plan", true), (15, 9, 1, .object "GalleryGuards$Lattice", true), (19, 9, 2, .object "GalleryGuards$Sight", true), (50, 3, 0, .int, false), (74, 5, 1, .int, false), (98, 5, 2, .int, false)]
def oil_10 : List (Nat × Int32) := []
def oll_10 : List (Nat × Int64) := [(93, (-1 : Int64))]
def ocl_10 : List (Nat × Nat × Nat × Nat × Nat) := [(23, 52, 0, 1, 5), (29, 53, 0, 1, 5), (32, 18, 0, 2, 3), (38, 60, 0, 1, 5), (41, 61, 0, 1, 5), (44, 73, 0, 1, 6), (54, 19, 0, 1, 3), (57, 20, 0, 1, 3), (60, 177, 2, 2, 0), (64, 104, 0, 1, 9), (67, 54, 0, 1, 5), (70, 106, 0, 2, 9), (77, 107, 0, 1, 9), (80, 108, 0, 1, 9), (83, 366, 1, 1, 0), (89, 21, 0, 0, 3), (95, 111, 0, 1, 9), (101, 105, 0, 1, 9), (104, 62, 0, 1, 5), (107, 113, 0, 1, 9)]
def ofl_11 : List (Nat × Nat × Nat × FieldType × Bool) := [(12, 10, 0, .object "GalleryGuards$Input", true), (19, 10, 2, .object "GalleryGuards$Plan", true), (23, 10, 3, .object "GalleryGuards$Plan", true), (29, 10, 4, .object "GalleryGuards$Lattice", true), (33, 10, 5, .object "GalleryGuards$Lattice", true), (41, 10, 1, .object "GalleryGuards$Parse\x72", true), (50, 10, 6, .object "GalleryGuards$Sight", true), (59, 10, 7, .object "GalleryGuards$Triangulation", true), (68, 10, 8, .object "GalleryGuards$CoverSearch", true), (77, 10, 9, .object "GalleryGuards$SpreadSearch", true), (84, 10, 10, .object "GalleryGuards$Watch", true), (91, 10, 11, .object "GalleryGuards$History", true), (95, 10, 12, .object "GalleryGuards$Plan", true), (98, 10, 13, .object "GalleryGuards$Plan", true), (101, 10, 14, .array .int, true), (105, 10, 15, .boolean, false), (109, 10, 16, .int, false), (113, 10, 17, .int, false), (116, 2, 0, .int, false), (134, 2, 2, .int, false), (149, 3, 0, .int, false), (152, 5, 0, .int, false), (192, 3, 1, .long, false), (262, 5, 1, .int, false), (295, 5, 2, .int, false), (348, 1, 0, .int, false)]
def oil_11 : List (Nat × Int32) := []
def oll_11 : List (Nat × Int64) := [(280, (-1 : Int64))]
def ocl_11 : List (Nat × Nat × Nat × Nat × Nat) := [(119, 11, 0, 1, 2), (130, 35, 0, 1, 4), (142, 8, 0, 0, 1), (145, 42, 0, 0, 5), (146, 180, 0, 1, 10), (155, 174, 0, 0, 10), (158, 175, 1, 2, 0), (162, 44, 0, 1, 5), (165, 45, 0, 1, 5), (168, 25, 1, 1, 0), (179, 26, 1, 1, 0), (182, 19, 0, 1, 3), (185, 20, 0, 1, 3), (188, 18, 0, 2, 3), (196, 66, 0, 0, 6), (199, 73, 0, 1, 6), (203, 177, 1, 2, 0), (207, 76, 0, 0, 6), (211, 77, 0, 2, 6), (214, 79, 0, 0, 6), (218, 78, 0, 1, 6), (221, 75, 0, 1, 6), (224, 176, 1, 3, 0), (228, 95, 0, 0, 8), (229, 90, 0, 2, 8), (232, 91, 0, 1, 8), (235, 92, 0, 1, 8), (238, 93, 0, 0, 8), (241, 1, 0, 0, 0), (244, 2, 0, 0, 0), (247, 5, 0, 0, 0), (250, 6, 0, 1, 0), (253, 81, 0, 0, 7), (256, 82, 0, 1, 7), (259, 84, 0, 0, 7), (265, 104, 0, 1, 9), (268, 54, 0, 1, 5), (271, 107, 0, 1, 9), (274, 21, 0, 0, 3), (277, 108, 0, 1, 9), (282, 109, 0, 1, 9), (285, 110, 0, 0, 9), (288, 111, 0, 1, 9), (292, 112, 0, 0, 9), (298, 105, 0, 1, 9), (301, 113, 0, 1, 9), (304, 114, 0, 0, 9), (307, 181, 0, 3, 10), (316, 9, 0, 1, 1), (319, 55, 0, 3, 5), (322, 58, 0, 1, 5), (325, 56, 0, 3, 5), (328, 57, 0, 2, 5), (331, 43, 0, 1, 5), (334, 49, 0, 3, 5), (337, 179, 0, 0, 10), (342, 48, 0, 3, 5), (345, 50, 0, 1, 5), (351, 10, 0, 1, 1), (354, 178, 0, 1, 10), (366, 27, 1, 1, 0), (370, 17, 0, 1, 3), (373, 22, 0, 1, 3), (378, 65, 0, 0, 6), (381, 89, 0, 0, 8), (382, 0, 0, 0, 0), (383, 80, 0, 0, 7), (384, 59, 0, 2, 5), (388, 64, 0, 2, 5), (391, 51, 0, 2, 5)]
def ofl_12 : List (Nat × Nat × Nat × FieldType × Bool) := [(7, 11, 2, .array .int, true), (13, 11, 3, .array .int, true), (16, 11, 5, .array .boolean, true), (20, 11, 6, .array .int, true), (23, 11, 9, .int, false), (27, 11, 14, .array .int, true), (30, 11, 19, .array .int, true), (33, 11, 21, .array .int, true), (36, 11, 22, .array .int, true), (39, 11, 23, .array .int, true), (42, 11, 24, .array .long, true), (46, 11, 25, .array .long, true), (49, 11, 26, .array .long, true), (52, 11, 28, .array .long, true), (55, 11, 29, .array .long, true), (58, 11, 30, .array .int, true), (61, 11, 31, .array .int, true), (64, 11, 32, .array .int, true), (67, 11, 33, .array .int, true), (70, 11, 35, .array .int, true), (73, 11, 37, .array .int, true), (76, 11, 39, .array .int, true), (79, 11, 0, .int, false), (82, 11, 1, .boolean, false), (90, 11, 7, .int, false), (93, 11, 8, .int, false), (96, 11, 10, .int, false), (99, 11, 11, .int, false), (106, 11, 12, .int, false), (109, 11, 13, .int, false), (116, 11, 15, .int, false), (122, 11, 16, .int, false), (125, 11, 17, .int, false), (128, 11, 18, .int, false), (192, 11, 4, .int, false), (195, 11, 27, .boolean, false), (201, 11, 20, .int, false), (269, 11, 34, .int, false), (272, 11, 36, .int, false), (337, 11, 38, .int, false), (370, 11, 40, .boolean, false)]
def oil_12 : List (Nat × Int32) := []
def oll_12 : List (Nat × Int64) := [(242, (-1 : Int64)), (267, (2 : Int64))]
def ocl_12 : List (Nat × Nat × Nat × Nat × Nat) := [(86, 183, 0, 2, 11), (102, 189, 0, 1, 11), (112, 190, 1, 1, 0), (119, 191, 1, 1, 0), (131, 192, 0, 0, 11), (144, 193, 0, 1, 11), (148, 182, 1, 3, 0), (152, 196, 0, 2, 11), (156, 194, 0, 0, 11), (161, 195, 0, 1, 11), (165, 197, 0, 2, 11), (168, 213, 1, 1, 0), (172, 208, 1, 4, 0), (178, 198, 0, 0, 11), (185, 199, 0, 1, 11), (189, 200, 0, 1, 11), (198, 214, 0, 0, 11), (204, 202, 1, 6, 0), (208, 204, 1, 2, 0), (212, 205, 1, 6, 0), (216, 206, 1, 5, 0), (220, 207, 1, 4, 0), (223, 203, 1, 1, 0), (227, 210, 1, 2, 0), (231, 209, 1, 3, 0), (235, 211, 1, 1, 0), (238, 212, 1, 1, 0), (244, 219, 0, 1, 11), (247, 184, 0, 0, 11), (251, 225, 0, 1, 11), (254, 226, 0, 1, 11), (257, 215, 0, 2, 11), (260, 233, 0, 0, 11), (263, 235, 0, 3, 11), (275, 238, 0, 5, 11), (279, 239, 0, 0, 11), (282, 217, 1, 2, 0), (286, 216, 0, 0, 11), (290, 244, 0, 1, 11), (293, 249, 0, 2, 11), (297, 250, 0, 4, 11), (301, 252, 0, 1, 11), (304, 251, 0, 0, 11), (307, 255, 0, 0, 11), (310, 257, 0, 1, 11), (313, 218, 1, 1, 0), (316, 240, 0, 1, 11), (319, 259, 0, 1, 11), (323, 262, 0, 4, 11), (327, 263, 0, 0, 11), (329, 266, 0, 4, 11), (332, 267, 0, 0, 11), (334, 270, 1, 1, 0), (340, 271, 0, 1, 11), (343, 272, 0, 2, 11), (347, 274, 0, 2, 11), (349, 275, 0, 3, 11), (353, 276, 0, 1, 11), (356, 227, 0, 1, 11), (359, 277, 0, 1, 11), (362, 284, 0, 1, 11), (365, 287, 0, 2, 11), (367, 289, 0, 1, 11), (373, 292, 0, 2, 11), (376, 293, 0, 2, 11), (379, 294, 0, 2, 11), (382, 297, 0, 1, 11), (385, 299, 0, 0, 11), (388, 306, 0, 2, 11), (391, 305, 0, 0, 11), (394, 304, 0, 0, 11), (397, 298, 0, 1, 11)]
def ofl_13 : List (Nat × Nat × Nat × FieldType × Bool) := []
def oil_13 : List (Nat × Int32) := []
def oll_13 : List (Nat × Int64) := []
def ocl_13 : List (Nat × Nat × Nat × Nat × Nat) := [(7, 116, 0, 1, 10), (17, 121, 0, 1, 10), (22, 122, 0, 1, 10), (25, 123, 0, 0, 10), (29, 124, 0, 0, 10), (32, 126, 0, 1, 10), (35, 127, 0, 1, 10), (38, 128, 0, 2, 10), (42, 129, 0, 0, 10), (46, 130, 0, 2, 10), (50, 131, 0, 1, 10), (54, 132, 0, 0, 10), (57, 133, 0, 2, 10), (60, 134, 0, 0, 10), (63, 135, 0, 1, 10), (66, 136, 0, 1, 10), (69, 137, 0, 2, 10), (72, 138, 0, 1, 10), (75, 139, 0, 1, 10), (78, 140, 0, 0, 10), (81, 141, 0, 0, 10), (84, 142, 0, 0, 10), (87, 143, 0, 0, 10), (90, 144, 0, 1, 10), (93, 145, 0, 0, 10), (96, 146, 0, 1, 10), (99, 147, 0, 0, 10), (102, 149, 0, 1, 10), (105, 150, 0, 1, 10), (108, 151, 0, 1, 10), (111, 152, 0, 0, 10), (114, 153, 0, 1, 10), (117, 154, 0, 0, 10), (120, 155, 0, 0, 10), (123, 156, 0, 0, 10), (126, 158, 0, 1, 10), (129, 159, 0, 0, 10), (132, 160, 0, 0, 10), (135, 161, 0, 1, 10), (138, 162, 0, 1, 10), (141, 163, 0, 2, 10), (144, 164, 0, 1, 10), (147, 165, 0, 2, 10), (150, 166, 0, 2, 10), (153, 167, 0, 3, 10), (157, 168, 0, 3, 10), (160, 169, 0, 1, 10), (163, 170, 0, 0, 10), (166, 172, 0, 1, 10), (169, 173, 0, 1, 10)]
def ofl_14 : List (Nat × Nat × Nat × FieldType × Bool) := []
def oil_14 : List (Nat × Int32) := [(264, (65536 : Int32)), (265, (1431655765 : Int32)), (266, (858993459 : Int32)), (267, (252645135 : Int32))]
def oll_14 : List (Nat × Int64) := []
def ocl_14 : List (Nat × Nat × Nat × Nat × Nat) := []
def ofl_15 : List (Nat × Nat × Nat × FieldType × Bool) := []
def oil_15 : List (Nat × Int32) := []
def oll_15 : List (Nat × Int64) := [(314, (6148914691236517205 : Int64)), (316, (3689348814741910323 : Int64)), (318, (1085102592571150095 : Int64))]
def ocl_15 : List (Nat × Nat × Nat × Nat × Nat) := [(311, 363, 1, 1, 0)]
abbrev OTT : Type := List (Nat × Nat × Nat × FieldType × Bool) × List (Nat × Int32) × List (Nat × Int64) × List (Nat × Nat × Nat × Nat × Nat)
def OT : List OTT := [(ofl_0, oil_0, oll_0, ocl_0), (ofl_1, oil_1, oll_1, ocl_1), (ofl_2, oil_2, oll_2, ocl_2), (ofl_3, oil_3, oll_3, ocl_3), (ofl_4, oil_4, oll_4, ocl_4), (ofl_5, oil_5, oll_5, ocl_5), (ofl_6, oil_6, oll_6, ocl_6), (ofl_7, oil_7, oll_7, ocl_7), (ofl_8, oil_8, oll_8, ocl_8), (ofl_9, oil_9, oll_9, ocl_9), (ofl_10, oil_10, oll_10, ocl_10), (ofl_11, oil_11, oll_11, ocl_11), (ofl_12, oil_12, oll_12, ocl_12), (ofl_13, oil_13, oll_13, ocl_13), (ofl_14, oil_14, oll_14, ocl_14), (ofl_15, oil_15, oll_15, ocl_15)]
def ot (o : Nat) : OTT := (OT[o]?).getD ([], [], [], [])
def lkp {α : Type} (l : List (Nat × α)) (ix : Nat) : Option α := (l.find? (fun e => e.1 == ix)).map (fun e => e.2)
-- n2.dom
/-! intervals: an abstract state (symbols with their intervals, locals, stack, fields that are known), kinds of cells -/
abbrev IV : Type := Int × Int
abbrev AS : Type := (Option Nat × Int) ⊕ Option (Nat × Nat)
abbrev AV : Type := IV ⊕ Option Nat
abbrev RLt : Type := AS × AS × Int
abbrev AC : Type := List IV × Nat × List (Nat × AS) × List AS × List (Nat × Nat × Nat × AS) × List RLt
def ivT : IV := (-2147483648, 2147483647)
def ivS (sy : List IV) : AS → IV
  | .inl (none, c) => (c, c)
  | .inl (some j, c) => match sy[j]? with
    | some q => (q.1 + c, q.2 + c)
    | none => ivT
  | .inr _ => ivT
def gS (KO : List Nat) (ν : List Int) (ρs : List Nat) : AS → Value → Prop
  | .inl (none, c), v => ∃ x : Int32, v = .int x ∧ x.toInt = c
  | .inl (some j, c), v => ∃ (x : Int32) (n : Int), v = .int x ∧ ν[j]? = some n ∧ x.toInt = n + c
  | .inr none, v => ∃ x : Int64, v = .long x
  | .inr (some q), v => ∃ h : Nat, v = .ref h ∧ ρs[q.2]? = some h ∧ KO[h]? = some q.1
/-- the field k of the object h -/
def fld (σ : SG) (h k : Nat) : Option Value := match σ[h]? with
  | some (.inr o) => o.2[k]?
  | _ => none
def arr (σ : SG) (h : Nat) : Option (Nat × vp_A) := match σ[h]? with
  | some (.inl a) => some a
  | _ => none
/-- what may have moved: (kind, field), for an array (kind, 0) -/
def Fr (KO : List Nat) (ms : List (Nat × Nat)) (σ σ' : SG) : Prop := σ'.length = σ.length ∧ ∀ (h κ : Nat), KO[h]? = some κ → (∀ k, (κ, k) ∉ ms → fld σ' h k = fld σ h k) ∧ ((κ, 0) ∉ ms → arr σ' h = arr σ h)
theorem Fr.rf {KO : List Nat} {ms : List (Nat × Nat)} {σ : SG} : Fr KO ms σ σ := ⟨rfl, fun _ _ _ => ⟨fun _ _ => rfl, fun _ => rfl⟩⟩
theorem Fr.tr {KO : List Nat} {ms : List (Nat × Nat)} {σ σ1 σ2 : SG} (h : Fr KO ms σ σ1) (h' : Fr KO ms σ1 σ2) : Fr KO ms σ σ2 := ⟨h'.1.trans h.1, fun x κ hx => ⟨fun k hk => ((h'.2 x κ hx).1 k hk).trans ((h.2 x κ hx).1 k hk), fun hk => ((h'.2 x κ hx).2 hk).trans ((h.2 x κ hx).2 hk)⟩⟩
theorem Fr.wk {KO : List Nat} {ms ms' : List (Nat × Nat)} {σ σ' : SG} (h : Fr KO ms σ σ') (hs : ∀ q ∈ ms, q ∈ ms') : Fr KO ms' σ σ' := ⟨h.1, fun x κ hx => ⟨fun k hk => (h.2 x κ hx).1 k (fun q => hk (hs _ q)), fun hk => (h.2 x κ hx).2 (fun q => hk (hs _ q))⟩⟩
/-- more symbols: what was said stays -/
def ext {α : Type} (a b : List α) : Prop := ∀ (j : Nat) (x : α), a[j]? = some x → b[j]? = some x
theorem ext.rf {α : Type} {a : List α} : ext a a := fun _ _ h => h
theorem ext.tr {α : Type} {a b c : List α} (h : ext a b) (h' : ext b c) : ext a c := fun j x q => h' j x (h j x q)
theorem ext.app {α : Type} (a b : List α) : ext a (a ++ b) := fun j x h => by
  rw [List.getElem?_append_left (List.getElem?_eq_some_iff.mp h).1]
  exact h
theorem gS.ext {KO : List Nat} {ν ν' : List Int} {ρs ρs' : List Nat} (h1 : ext ν ν') (h2 : ext ρs ρs') {a : AS} {v : Value} (h : gS KO ν ρs a v) : gS KO ν' ρs' a v := by
  match a, h with
  | .inl (none, c), h => exact h
  | .inl (some j, c), h => obtain ⟨x, n, e1, e2, e3⟩ := h; exact ⟨x, n, e1, h1 _ _ e2, e3⟩
  | .inr none, h => exact h
  | .inr (some q), h => obtain ⟨x, e1, e2, e3⟩ := h; exact ⟨x, e1, h2 _ _ e2, e3⟩
-- n3.ints
def gR (KO : List Nat) (ν : List Int) (ρs : List Nat) (x : Int32) : AS ⊕ IV → Prop
  | .inl a => gS KO ν ρs a (.int x)
  | .inr q => q.1 ≤ x.toInt ∧ x.toInt ≤ q.2
-- n4.ref
def hN (sy : List IV) (ν : List Int) : Prop := ν.length = sy.length ∧ ∀ (j : Nat) (iv : IV), sy[j]? = some iv → ∃ n, ν[j]? = some n ∧ iv.1 ≤ n ∧ n ≤ iv.2
-- n6.heap
def fcL (fc : List (Nat × Nat × Nat × AS)) (ρ k : Nat) : Option AS := (fc.find? (fun q => q.1 == ρ && q.2.1 == k)).map (fun q => q.2.2.2)
def inI (q w : IV) : Bool := decide (w.1 ≤ q.1) && decide (q.2 ≤ w.2)
-- n8.cut
def ngT (l : List (Nat × Int)) : List (Nat × Int) := l.map (fun q => (q.1, -q.2))
def inT (j : Nat) (w : Int) : List (Nat × Int) → List (Nat × Int)
  | [] => [(j, w)]
  | q :: r => if q.1 = j then (j, q.2 + w) :: r else q :: inT j w r
def mgT : List (Nat × Int) → List (Nat × Int)
  | [] => []
  | q :: r => inT q.1 q.2 (mgT r)
def ubT (sy : List IV) : List (Nat × Int) → Option Int
  | [] => some 0
  | q :: r => match sy[q.1]?, ubT sy r with
    | some iv, some u => some ((if 0 ≤ q.2 then q.2 * iv.2 else q.2 * iv.1) + u)
    | _, _ => none
/-- a place: a local, or a field of a local's object -/
abbrev PL : Type := Nat × Option Nat
def plA (A : AC) (p : PL) : Option AS := match lkp A.2.2.1 p.1, p.2 with
  | some a, none => some a
  | some (.inr (some r)), some k => fcL A.2.2.2.2.1 r.2 k
  | _, _ => none
/-- the measure by symbols: terms and what is left -/
def lin (A : AC) : List (PL × Int) → Option (List (Nat × Int) × Int)
  | [] => some ([], 0)
  | q :: r => match plA A q.1, lin A r with
    | some (.inl (none, c)), some t => some (t.1, q.2 * c + t.2)
    | some (.inl (some j, c)), some t => some ((j, q.2) :: t.1, q.2 * c + t.2)
    | _, _ => none
/-- a cut point: place, locals, stack, known fields of locals' objects, measure -/
abbrev CUT : Type := Nat × List (Nat × AV) × List AV × List (Nat × Nat × IV) × Int × List (PL × Int) × List (PL × PL × Int)
def fitV (sy : List IV) : AV → AS → Bool
  | .inl q, .inl b => inI (ivS sy (.inl b)) q
  | .inr none, .inr none => true
  | .inr (some κ), .inr (some r) => κ == r.1
  | _, _ => false
def fitL (sy : List IV) : List AV → List AS → Bool
  | [], [] => true
  | a :: as, b :: bs => fitV sy a b && fitL sy as bs
  | _, _ => false
/-- that a + d ≤ b follows -/
def leA (sy : List IV) (rel : List RLt) (a b : AS) (d : Int) : Bool := decide ((ivS sy a).2 + d ≤ (ivS sy b).1) || (match a, b with
  | .inl (some j, c1), .inl (some l, c2) => (decide (j = l) && decide (c1 + d ≤ c2)) || rel.any (fun q => match q.1, q.2.1 with
    | .inl (some j', c3), .inl (some l', c4) => decide (j' = j) && (decide (l' = l) && decide (c1 + d - c2 ≤ c3 + q.2.2 - c4))
    | _, _ => false)
  | _, _ => false)
/-- from a state into a cut point whose measure is less than 'm0' -/
def enter (A : AC) (u : CUT) (m0 : List (Nat × Int) × Int) : Bool :=
  u.2.1.all (fun q => match lkp A.2.2.1 q.1 with
    | some a => fitV A.1 q.2 a
    | none => false) && (fitL A.1 u.2.2.1 A.2.2.2.1 && (u.2.2.2.1.all (fun q => match lkp A.2.2.1 q.1 with
    | some (.inr (some r)) => (match fcL A.2.2.2.2.1 r.2 q.2.1 with
      | some (.inl b) => inI (ivS A.1 (.inl b)) q.2.2
      | _ => false)
    | _ => false) && (u.2.2.2.2.2.2.all (fun q => match plA A q.1, plA A q.2.1 with
    | some (.inl a), some (.inl b) => leA A.1 A.2.2.2.2.2 (.inl a) (.inl b) q.2.2
    | _, _ => false) && (match lin A u.2.2.2.2.2.1 with
    | some t => (match ubT A.1 (mgT (t.1 ++ ngT m0.1)), ubT A.1 (mgT (ngT t.1)) with
      | some w, some z => decide (u.2.2.2.2.1 + t.2 + w < m0.2) && decide (z ≤ u.2.2.2.2.1 + t.2)
      | _, _ => false)
    | none => false))))
-- o2.spec
/-! abstract steps of Math and arraycopy -/
def mx (a b : Int) : Int := if a < b then b else a
-- o3.text
def sb : Nat := 300
def txt (h : Nat) : Option (List Int32) := if sb ≤ h then TXS[h - sb]? else none
-- r1.go
/-! an exact picture of the heap (shapes of cells by handles; ints and longs as functions), runs that begin in it, and their rules -/
abbrev FT : Type := Bool ⊕ Nat
abbrev SHP : Type := (Nat × List FT) ⊕ (Nat × Nat)
abbrev ST : Type := (Nat → Nat → Int32) × (Nat → Nat → Int64)
abbrev LSt : Type := List (Option Value)
abbrev XT : Type := Nat → Option SHP
abbrev RT : Type := Nat → OC → ST → Prop
def fV (I : Nat → Int32) (L : Nat → Int64) (k : Nat) : FT → Value
  | .inl false => .int (I k)
  | .inl true => .long (L k)
  | .inr h => .ref h
def wI (S : ST) (h k : Nat) (v : Int32) : ST := (fun h' k' => if h' = h ∧ k' = k then v else S.1 h' k', S.2)
def wL (S : ST) (h k : Nat) (v : Int64) : ST := (S.1, fun h' k' => if h' = h ∧ k' = k then v else S.2 h' k')
theorem wI_1 (S : ST) (h k : Nat) (v : Int32) (h' k' : Nat) : (wI S h k v).1 h' k' = if h' = h ∧ k' = k then v else S.1 h' k' := rfl
theorem wI_2 (S : ST) (h k : Nat) (v : Int32) : (wI S h k v).2 = S.2 := rfl
theorem wL_2 (S : ST) (h k : Nat) (v : Int64) (h' k' : Nat) : (wL S h k v).2 h' k' = if h' = h ∧ k' = k then v else S.2 h' k' := rfl
theorem wL_1 (S : ST) (h k : Nat) (v : Int64) : (wL S h k v).1 = S.1 := rfl
def isC2 : Option (Option Value) → Bool
  | some (some v) => v.category == 2
  | _ => false
/-- a word, a long into a place of the row -/
def s1 (i : Nat) (v : Value) (ls : LSt) : LSt := match i with
  | 0 => ls.set 0 (some v)
  | j + 1 => if isC2 ls[j]? = true then (ls.set j none).set (j + 1) (some v) else ls.set (j + 1) (some v)
def s2 (i : Nat) (v : Value) (ls : LSt) : LSt := (s1 i v ls).set (i + 1) none
def ic (n : Int) : Int32 := match n with
  | .ofNat m => OfNat.ofNat m
  | .negSucc m => -(OfNat.ofNat (m + 1))
def lc (n : Nat) : Int64 := match n with
  | 0 => 0
  | 1 => 1
  | n => Int64.ofNat n
/-- the simple steps in the picture -/
def xs (X : XT) (K : LK) (nL pc : Nat) (i : Instr) (ls : LSt) (st : List Value) (S : ST) : Option (Nat × LSt × List Value × ST) := match i with
  | .iconst n => some (pc + 1, ls, .int (ic n) :: st, S)
  | .bipush n => if -128 ≤ n ∧ n ≤ 127 then some (pc + 2, ls, .int (ic n) :: st, S) else none
  | .sipush n => if -32768 ≤ n ∧ n ≤ 32767 then some (pc + 3, ls, .int (ic n) :: st, S) else none
  | .lconst n => some (pc + 1, ls, .long (lc (n : Nat)) :: st, S)
  | .ldc2_w ix => match K.2.2 ix with
    | some v => some (pc + 3, ls, .long v :: st, S)
    | none => none
  | .iload_n n => match ls[(n : Nat)]? with
    | some (some (.int x)) => some (pc + 1, ls, .int x :: st, S)
    | _ => none
  | .iload n => match ls[n]? with
    | some (some (.int x)) => some (pc + 2, ls, .int x :: st, S)
    | _ => none
  | .lload_n n => match ls[(n : Nat)]? with
    | some (some (.long x)) => some (pc + 1, ls, .long x :: st, S)
    | _ => none
  | .lload n => match ls[n]? with
    | some (some (.long x)) => some (pc + 2, ls, .long x :: st, S)
    | _ => none
  | .aload_n n => match ls[(n : Nat)]? with
    | some (some (.ref x)) => some (pc + 1, ls, .ref x :: st, S)
    | _ => none
  | .aload n => match ls[n]? with
    | some (some (.ref x)) => some (pc + 2, ls, .ref x :: st, S)
    | _ => none
  | .istore_n n => match st with
    | .int x :: r => if (n : Nat) < nL then some (pc + 1, s1 (n : Nat) (.int x) ls, r, S) else none
    | _ => none
  | .istore n => match st with
    | .int x :: r => if n < nL then some (pc + 2, s1 n (.int x) ls, r, S) else none
    | _ => none
  | .lstore_n n => match st with
    | .long x :: r => if (n : Nat) + 1 < nL then some (pc + 1, s2 (n : Nat) (.long x) ls, r, S) else none
    | _ => none
  | .lstore n => match st with
    | .long x :: r => if n + 1 < nL then some (pc + 2, s2 n (.long x) ls, r, S) else none
    | _ => none
  | .astore_n n => match st with
    | .ref x :: r => if (n : Nat) < nL then some (pc + 1, s1 (n : Nat) (.ref x) ls, r, S) else none
    | _ => none
  | .astore n => match st with
    | .ref x :: r => if n < nL then some (pc + 2, s1 n (.ref x) ls, r, S) else none
    | _ => none
  | .iinc n d => match ls[n]? with
    | some (some (.int x)) => if n < nL then some (pc + 3, s1 n (.int (x + ic d)) ls, st, S) else none
    | _ => none
  | .goto off => if 0 ≤ (pc : Int) + off then some (((pc : Int) + off).toNat, ls, st, S) else none
  | .getfield ix => match K.1 ix, st with
    | some (ci, k, _, _), .ref h :: r => match X h with
      | some (.inl o) => if o.1 = ci then (match o.2[k]? with
        | some t => some (pc + 3, ls, fV (S.1 h) (S.2 h) k t :: r, S)
        | none => none) else none
      | _ => none
    | _, _ => none
  | .putfield ix => match K.1 ix, st with
    | some (ci, k, .int, false), .int v :: .ref h :: r => match X h with
      | some (.inl o) => if o.1 = ci then (match o.2[k]? with
        | some (.inl false) => some (pc + 3, ls, r, wI S h k v)
        | _ => none) else none
      | _ => none
    | some (ci, k, .boolean, false), .int v :: .ref h :: r => match X h with
      | some (.inl o) => if o.1 = ci then (match o.2[k]? with
        | some (.inl false) => if v = 0 ∨ v = 1 then some (pc + 3, ls, r, wI S h k v) else none
        | _ => none) else none
      | _ => none
    | some (ci, k, .long, false), .long v :: .ref h :: r => match X h with
      | some (.inl o) => if o.1 = ci then (match o.2[k]? with
        | some (.inl true) => some (pc + 3, ls, r, wL S h k v)
        | _ => none) else none
      | _ => none
    | _, _ => none
  | _ => match simA pc i [] st [] with
    | some r => some (r.1, ls, r.2.2.1, S)
    | none => match simU pc i [] st [] with
      | some r => some (r.1, ls, r.2.2.1, S)
      | none => match simD pc i [] st [] with
        | some r => some (r.1, ls, r.2.2.1, S)
        | none => none
-- r2.rules
/-- it returns, and P holds -/
def RP (P : Option Value → ST → Prop) : RT := fun c o S' => c = 0 ∧ ∃ v, o = .inr v ∧ P v S'
section Rules
variable {X : XT} {d d' k c pc pc' : Nat} {ls ls' : LSt} {st r : List Value} {S S' : ST} {R R' : RT} {M : MI} {o : Nat} {cd : List (Nat × Instr)} {i : Instr}
/-- the proposition at the bottom of a branch, and whether the branch is taken where it holds -/
def cB (cn : ClassFile.Cond) (x y : Int32) : Prop := match cn with
  | .eq => x = y
  | .ne => x = y
  | .lt => x < y
  | .ge => x < y
  | .gt => y < x
  | .le => y < x
def b2i (b : Bool) : Int32 := match b with
  | true => 1
  | false => 0
def inB (j : Int32) (n : Nat) : Prop := 0 ≤ j.toInt ∧ j.toInt < n
theorem inB_ok {j : Int32} {n : Nat} (h : inB j n) : inN j n = true := by
  unfold inN
  have h0 : ¬ j < 0 := fun q => by
    have := Int32.lt_iff_toInt_lt.mp q
    have h1 := h.1
    have : j.toInt < 0 := this
    omega
  have h1 : j.toNatClampNeg < n := by
    show j.toInt.toNat < n
    have := h.2
    have := h.1
    omega
  simp [h0, h1]
end Rules
-- r4.nums
/-! numbers: naturals as ints, sums and products that stay in bounds; loops as folds -/
def nJ (i : Nat) : Int32 := Int32.ofNat i
theorem nJ_lit (n : Nat) : (OfNat.ofNat n : Int32) = nJ n := rfl
theorem nJ_toInt {i : Nat} (h : i < 2147483648) : (nJ i).toInt = i := Int32.toInt_ofNat_of_lt h
theorem nJ_ix {i : Nat} (h : i < 2147483648) : (nJ i).toNatClampNeg = i := Int32.toNatClampNeg_ofNat_of_lt h
theorem nJ_add (i j : Nat) : nJ i + nJ j = nJ (i + j) := (Int32.ofNat_add i j).symm
theorem nJ_mul (i j : Nat) : nJ i * nJ j = nJ (i * j) := (Int32.ofNat_mul i j).symm
theorem nJ_sub {i j : Nat} (h : j ≤ i) : nJ i - nJ j = nJ (i - j) := (Int32.ofNat_sub i j h).symm
theorem nJ_lt {i j : Nat} (hi : i < 2147483648) (hj : j < 2147483648) : nJ i < nJ j ↔ i < j := Int32.ofNat_lt_iff_lt hi hj
theorem nJ_eq {i j : Nat} (hi : i < 2147483648) (hj : j < 2147483648) : nJ i = nJ j ↔ i = j := by
  constructor
  · intro h
    have := congrArg Int32.toInt h
    rw [nJ_toInt hi, nJ_toInt hj] at this
    omega
  · intro h; rw [h]
theorem nJ_of {x : Int32} (h : 0 ≤ x.toInt) : x = nJ x.toNatClampNeg := by
  apply Int32.toInt_inj.mp
  have h1 : x.toNatClampNeg = x.toInt.toNat := rfl
  have h2 := Int32.toInt_le x
  have h2 : x.toInt ≤ 2147483647 := h2
  rw [nJ_toInt (by omega), h1]
  omega
theorem nJ_inB {i n : Nat} (h : i < n) (hn : n < 2147483648) : inB (nJ i) n := by
  unfold inB
  rw [nJ_toInt (by omega)]
  omega
theorem bm {n : Int} {m : Nat} (h1 : -(m / 2 : Int) ≤ n) (h2 : n < (m / 2 : Int)) : n.bmod m = n := Int.bmod_eq_of_le (by omega) (by omega)
theorem iadd_t {x y : Int32} (h1 : -2147483648 ≤ x.toInt + y.toInt) (h2 : x.toInt + y.toInt ≤ 2147483647) : (x + y).toInt = x.toInt + y.toInt := by
  rw [Int32.toInt_add]
  exact bm (m := 2 ^ 32) (by omega) (by omega)
theorem isub_t {x y : Int32} (h1 : -2147483648 ≤ x.toInt - y.toInt) (h2 : x.toInt - y.toInt ≤ 2147483647) : (x - y).toInt = x.toInt - y.toInt := by
  rw [Int32.toInt_sub]
  exact bm (m := 2 ^ 32) (by omega) (by omega)
theorem imul_t {x y : Int32} (h1 : -2147483648 ≤ x.toInt * y.toInt) (h2 : x.toInt * y.toInt ≤ 2147483647) : (x * y).toInt = x.toInt * y.toInt := by
  rw [Int32.toInt_mul]
  exact bm (m := 2 ^ 32) (by omega) (by omega)
theorem ladd_t {x y : Int64} (h1 : -9223372036854775808 ≤ x.toInt + y.toInt) (h2 : x.toInt + y.toInt ≤ 9223372036854775807) : (x + y).toInt = x.toInt + y.toInt := by
  rw [Int64.toInt_add]
  exact bm (m := 2 ^ 64) (by omega) (by omega)
theorem lsub_t {x y : Int64} (h1 : -9223372036854775808 ≤ x.toInt - y.toInt) (h2 : x.toInt - y.toInt ≤ 9223372036854775807) : (x - y).toInt = x.toInt - y.toInt := by
  rw [Int64.toInt_sub]
  exact bm (m := 2 ^ 64) (by omega) (by omega)
theorem lmul_t {x y : Int64} (h1 : -9223372036854775808 ≤ x.toInt * y.toInt) (h2 : x.toInt * y.toInt ≤ 9223372036854775807) : (x * y).toInt = x.toInt * y.toInt := by
  rw [Int64.toInt_mul]
  exact bm (m := 2 ^ 64) (by omega) (by omega)
/-- a bound on a product -/
theorem mul_bd {a b A B : Int} (h1 : -A ≤ a) (h2 : a ≤ A) (h3 : -B ≤ b) (h4 : b ≤ B) : -(A * B) ≤ a * b ∧ a * b ≤ A * B := by
  have hA : 0 ≤ A := by omega
  have hB : 0 ≤ B := by omega
  have k1 : 0 ≤ (A - a) * (B + b) := Int.mul_nonneg (by omega) (by omega)
  have k2 : 0 ≤ (A + a) * (B - b) := Int.mul_nonneg (by omega) (by omega)
  have k3 : 0 ≤ (A - a) * (B - b) := Int.mul_nonneg (by omega) (by omega)
  have k4 : 0 ≤ (A + a) * (B + b) := Int.mul_nonneg (by omega) (by omega)
  have e1 : (A - a) * (B + b) = A * B + A * b - a * B - a * b := by rw [Int.sub_mul, Int.mul_add, Int.mul_add]; omega
  have e2 : (A + a) * (B - b) = A * B - A * b + a * B - a * b := by rw [Int.add_mul, Int.mul_sub, Int.mul_sub]; omega
  have e3 : (A - a) * (B - b) = A * B - A * b - a * B + a * b := by rw [Int.sub_mul, Int.mul_sub, Int.mul_sub]; omega
  have e4 : (A + a) * (B + b) = A * B + A * b + a * B + a * b := by rw [Int.add_mul, Int.mul_add, Int.mul_add]; omega
  omega
/-- a counted loop as a fold -/
def fr {α : Type} (f : Nat → α → α) : Nat → Nat → α → α
  | _, 0, a => a
  | i, m + 1, a => fr f (i + 1) m (f i a)
theorem fr_loop {α : Type} {f : Nat → α → α} {H : Nat → α → Prop} {J : Nat → α → Prop} {n : Nat} (hs : ∀ i a, i < n → J i a → J (i + 1) (f i a) ∧ (H (i + 1) (f i a) → H i a)) : ∀ (m i : Nat) (a : α), i + m = n → J i a → (J n (fr f i m a) → H n (fr f i m a)) → H i a := by
  intro m
  induction m with
  | zero =>
    intro i a hi hJ hf
    have : i = n := by omega
    subst this
    exact hf hJ
  | succ m ih =>
    intro i a hi hJ hf
    obtain ⟨h1, h2⟩ := hs i a (by omega) hJ
    exact h2 (ih (i + 1) (f i a) (by omega) h1 hf)
theorem fr_inv {α : Type} {f : Nat → α → α} {J : Nat → α → Prop} {n : Nat} (hs : ∀ i a, i < n → J i a → J (i + 1) (f i a)) : ∀ (m i : Nat) (a : α), i + m = n → J i a → J n (fr f i m a) := by
  intro m
  induction m with
  | zero =>
    intro i a hi hJ
    have : i = n := by omega
    subst this
    exact hJ
  | succ m ih =>
    intro i a hi hJ
    exact ih (i + 1) (f i a) (by omega) (hs i a (by omega) hJ)
theorem fr_snoc {α : Type} (f : Nat → α → α) : ∀ (m i : Nat) (a : α), fr f i (m + 1) a = f (i + m) (fr f i m a) := by
  intro m
  induction m with
  | zero => intro i a; rfl
  | succ m ih =>
    intro i a
    show fr f (i + 1) (m + 1) (f i a) = _
    rw [ih]
    show f (i + 1 + m) (fr f (i + 1) m (f i a)) = f (i + (m + 1)) (fr f (i + 1) m (f i a))
    rw [show i + 1 + m = i + (m + 1) by omega]
/-- a counted search -/
def ay (p : Nat → Bool) : Nat → Nat → Bool
  | _, 0 => false
  | i, m + 1 => p i || ay p (i + 1) m
theorem ay_iff (p : Nat → Bool) : ∀ (m i : Nat), ay p i m = true ↔ ∃ j, i ≤ j ∧ j < i + m ∧ p j = true := by
  intro m
  induction m with
  | zero =>
    intro i
    constructor
    · intro h; cases h
    · rintro ⟨j, h1, h2, -⟩; omega
  | succ m ih =>
    intro i
    show (p i || ay p (i + 1) m) = true ↔ _
    rw [Bool.or_eq_true, ih]
    constructor
    · rintro (h | ⟨j, h1, h2, h3⟩)
      · exact ⟨i, Nat.le_refl _, by omega, h⟩
      · exact ⟨j, by omega, by omega, h3⟩
    · rintro ⟨j, h1, h2, h3⟩
      by_cases hj : j = i
      · subst hj; exact Or.inl h3
      · exact Or.inr ⟨j, by omega, by omega, h3⟩
-- r5.auto
/-! the reference: methods without loops, as functions (printed by a program out of the bytecode) -/
def ra (S : ST) (h : Nat) (j : Int32) : Int32 := S.1 h (Int32.toNatClampNeg j)
def rl (S : ST) (h : Nat) (j : Int32) : Int64 := S.2 h (Int32.toNatClampNeg j)
def f_182 (v0 : Int32) (v1 : Int32) (v2 : Int32) : Bool := (!(decide (v0 < v1)) && (!(decide (v2 < v0))))
def g_193 (S : ST) (v1 : Int32) : ST := (if (S.1 140 17) = 0 then (wI (wI S 140 17 v1) 140 18 (S.1 140 12)) else S)
def f_196 (S : ST) (v1 : Int32) (v2 : Int32) : Int32 := (if (S.1 140 13) = 2 then (if (f_182 (S.1 140 16) v1 v2) = true then (if (S.1 140 17) = 0 then S.1 140 16 else v1) else (if ((g_193 S 2).1 140 17) = 0 then (g_193 S 2).1 140 16 else v1)) else (if ((g_193 S 1).1 140 17) = 0 then (g_193 S 1).1 140 16 else v1))
def g_196 (S : ST) (v1 : Int32) (v2 : Int32) : ST := (if (S.1 140 13) = 2 then (if (f_182 (S.1 140 16) v1 v2) = true then S else (g_193 S 2)) else (g_193 S 1))
def f_202 (v0 : Int64) (v2 : Int64) (v4 : Int64) (v6 : Int64) (v8 : Int64) (v10 : Int64) : Int64 := ((v4 - v0) * (v10 - v2)) - ((v6 - v2) * (v8 - v0))
def f_203 (v0 : Int64) : Int32 := (if (0 : Int64) < v0 then 1 else (if v0 < 0 then (-1) else 0))
def f_204 (S : ST) (h0 : Nat) (v1 : Int32) : Int32 := (if (v1 + 1) = (S.1 h0 0) then 0 else v1 + 1)
def f_205 (v0 : Int64) (v2 : Int64) (v4 : Int64) (v6 : Int64) (v8 : Int64) (v10 : Int64) : Bool := ((!(decide ((0 : Int64) < ((v8 - v0) * (v8 - v4)))) && (!(decide ((0 : Int64) < ((v10 - v2) * (v10 - v6)))))) && (decide ((f_202 v0 v2 v4 v6 v8 v10) = 0)))
def f_216 (S : ST) : Int64 := (if (S.1 140 20) = 64 then (-1) else (1 <<< (Int32.toInt64 (S.1 140 20) &&& 63)) - 1)
def f_217 (v0 : Int64) (v2 : Int32) : Bool := (decide (((v0 >>> (Int32.toInt64 v2 &&& 63)) &&& 1) = 1))
def f_306 (v1 : Int32) (v2 : Int32) : Bool := (!(f_182 v1 0 15) || (!(f_182 v2 0 15)))
def tz (b : Bool) (v : Int32) : Int32 := if b = true then v else 0
def rf (t : Int32) (b : Bool) (v : Int32) : Int32 := if t = 0 then (if b = true then v else t) else t
/-- no polygon, or the index isn't from 0 to the last -/
def nb (S : ST) (v : Int32) (l : Int32) : Bool := decide (S.1 140 1 = 0) || !(f_182 v 0 l)
def tb (S : ST) (v : Int32) (l : Int32) : Int32 := if S.1 140 1 = 0 then 1 else tz (!(f_182 v 0 l)) 2
-- s1.geom
/-! the reference's geometry: rows, places on edges, in the polygon, the simple polygon -/
def rN (S : ST) (h : Nat) : Nat := (S.1 h 0).toNatClampNeg
/-- a row of at most 12 vertices; an index into it -/
def RW (S : ST) (h : Nat) : Prop := S.1 h 0 = nJ (rN S h) ∧ rN S h ≤ 12
def RI (S : ST) (h : Nat) (v : Int32) : Prop := RW S h ∧ ∃ i, v = nJ i ∧ i < rN S h
theorem nJ_succ (i : Nat) : nJ i + 1 = nJ (i + 1) := nJ_add i 1
theorem ix_add {a i : Nat} (h : a + i < 2147483648) : Int32.toNatClampNeg (nJ a + nJ i) = a + i := by rw [nJ_add, nJ_ix h]
theorem inB_add {a i n : Nat} (h : a + i < n) (hn : n < 2147483648) : inB (nJ a + nJ i) n := by rw [nJ_add]; exact nJ_inB h hn
theorem ra_add (S : ST) (h : Nat) {a i : Nat} (hi : a + i < 2147483648) : ra S h (nJ a + nJ i) = S.1 h (a + i) := by
  show S.1 h (Int32.toNatClampNeg (nJ a + nJ i)) = _
  rw [ix_add hi]
theorem ra_3 (S : ST) (h : Nat) {i : Nat} (hi : i < 1000000) : ra S h (3 + nJ i) = S.1 h (3 + i) := ra_add S h (a := 3) (by omega)
theorem ra_15 (S : ST) (h : Nat) {i : Nat} (hi : i < 1000000) : ra S h (15 + nJ i) = S.1 h (15 + i) := ra_add S h (a := 15) (by omega)
theorem ra_n (S : ST) (h : Nat) {i : Nat} (hi : i < 2147483648) : ra S h (nJ i) = S.1 h i := by
  show S.1 h (Int32.toNatClampNeg (nJ i)) = _
  rw [nJ_ix hi]
theorem f204_eq {S : ST} {h i : Nat} (hW : RW S h) (hi : i < rN S h) : f_204 S h (nJ i) = nJ (ge_aft (rN S h) i) := by
  unfold f_204 ge_aft
  have h12 := hW.2
  rw [nJ_succ, hW.1]
  by_cases q : i + 1 = rN S h
  · rw [if_pos (by rw [q]), if_pos q]
    rfl
  · rw [if_neg (fun z => q ((nJ_eq (by omega) (by omega)).mp z)), if_neg q]
theorem RI_aft {S : ST} {h : Nat} {v : Int32} (hI : RI S h v) : RI S h (f_204 S h v) := by
  obtain ⟨hW, i, rfl, hi⟩ := hI
  exact ⟨hW, ge_aft (rN S h) i, f204_eq hW hi, ge_aft_lt hi⟩
theorem RI_3 {S : ST} {h : Nat} {v : Int32} (hI : RI S h v) : inB (3 + v) 63 := by
  obtain ⟨hW, i, rfl, hi⟩ := hI
  have := hW.2
  exact inB_add (a := 3) (by omega) (by omega)
theorem RI_15 {S : ST} {h : Nat} {v : Int32} (hI : RI S h v) : inB (15 + v) 63 := by
  obtain ⟨hW, i, rfl, hi⟩ := hI
  have := hW.2
  exact inB_add (a := 15) (by omega) (by omega)
def f_206 (S : ST) (h0 : Nat) (v1 : Int32) (v2 : Int64) (v4 : Int64) (v6 : Int64) : Bool := f_205 ((Int32.toInt64 (ra S h0 (3 + v1))) * v6) ((Int32.toInt64 (ra S h0 (15 + v1))) * v6) ((Int32.toInt64 (ra S h0 (3 + (f_204 S h0 v1)))) * v6) ((Int32.toInt64 (ra S h0 (15 + (f_204 S h0 v1)))) * v6) v2 v4
def f_207 (S : ST) (h0 : Nat) (v1 v3 v5 : Int64) : Bool := ay (fun i => f_206 S h0 (nJ i) v1 v3 v5) 0 (rN S h0)
def st8 (S : ST) (h0 : Nat) (v1 v3 v5 : Int64) (i : Nat) (a : Bool) : Bool := if decide (v3 < Int32.toInt64 (ra S h0 (15 + nJ i)) * v5) = decide (v3 < Int32.toInt64 (ra S h0 (15 + f_204 S h0 (nJ i))) * v5) then a else if decide (Int32.toInt64 (ra S h0 (15 + nJ i)) * v5 < Int32.toInt64 (ra S h0 (15 + f_204 S h0 (nJ i))) * v5) = decide ((0 : Int64) < f_202 (Int32.toInt64 (ra S h0 (3 + nJ i)) * v5) (Int32.toInt64 (ra S h0 (15 + nJ i)) * v5) (Int32.toInt64 (ra S h0 (3 + f_204 S h0 (nJ i))) * v5) (Int32.toInt64 (ra S h0 (15 + f_204 S h0 (nJ i))) * v5) v1 v3) then !a else a
def f_208 (S : ST) (h0 : Nat) (v1 v3 v5 : Int64) : Bool := if f_207 S h0 v1 v3 v5 = true then true else fr (st8 S h0 v1 v3 v5) 0 (rN S h0) false
theorem b2i_not (a : Bool) : decide (b2i a = 0) = !a := by cases a <;> decide
def f_209 (S : ST) (h0 : Nat) (v1 : Int32) (v2 : Int32) : Bool := ((f_205 (Int32.toInt64 (ra S h0 (3 + v1))) (Int32.toInt64 (ra S h0 (15 + v1))) (Int32.toInt64 (ra S h0 (3 + (f_204 S h0 v1)))) (Int32.toInt64 (ra S h0 (15 + (f_204 S h0 v1)))) (Int32.toInt64 (ra S h0 (3 + v2))) (Int32.toInt64 (ra S h0 (15 + v2)))) || ((f_205 (Int32.toInt64 (ra S h0 (3 + v1))) (Int32.toInt64 (ra S h0 (15 + v1))) (Int32.toInt64 (ra S h0 (3 + (f_204 S h0 v1)))) (Int32.toInt64 (ra S h0 (15 + (f_204 S h0 v1)))) (Int32.toInt64 (ra S h0 (3 + (f_204 S h0 v2)))) (Int32.toInt64 (ra S h0 (15 + (f_204 S h0 v2))))) || ((f_205 (Int32.toInt64 (ra S h0 (3 + v2))) (Int32.toInt64 (ra S h0 (15 + v2))) (Int32.toInt64 (ra S h0 (3 + (f_204 S h0 v2)))) (Int32.toInt64 (ra S h0 (15 + (f_204 S h0 v2)))) (Int32.toInt64 (ra S h0 (3 + v1))) (Int32.toInt64 (ra S h0 (15 + v1)))) || ((f_205 (Int32.toInt64 (ra S h0 (3 + v2))) (Int32.toInt64 (ra S h0 (15 + v2))) (Int32.toInt64 (ra S h0 (3 + (f_204 S h0 v2)))) (Int32.toInt64 (ra S h0 (15 + (f_204 S h0 v2)))) (Int32.toInt64 (ra S h0 (3 + (f_204 S h0 v1)))) (Int32.toInt64 (ra S h0 (15 + (f_204 S h0 v1))))) || (decide (((f_203 (f_202 (Int32.toInt64 (ra S h0 (3 + v1))) (Int32.toInt64 (ra S h0 (15 + v1))) (Int32.toInt64 (ra S h0 (3 + (f_204 S h0 v1)))) (Int32.toInt64 (ra S h0 (15 + (f_204 S h0 v1)))) (Int32.toInt64 (ra S h0 (3 + v2))) (Int32.toInt64 (ra S h0 (15 + v2))))) * (f_203 (f_202 (Int32.toInt64 (ra S h0 (3 + v1))) (Int32.toInt64 (ra S h0 (15 + v1))) (Int32.toInt64 (ra S h0 (3 + (f_204 S h0 v1)))) (Int32.toInt64 (ra S h0 (15 + (f_204 S h0 v1)))) (Int32.toInt64 (ra S h0 (3 + (f_204 S h0 v2)))) (Int32.toInt64 (ra S h0 (15 + (f_204 S h0 v2))))))) < 0) && (decide (((f_203 (f_202 (Int32.toInt64 (ra S h0 (3 + v2))) (Int32.toInt64 (ra S h0 (15 + v2))) (Int32.toInt64 (ra S h0 (3 + (f_204 S h0 v2)))) (Int32.toInt64 (ra S h0 (15 + (f_204 S h0 v2)))) (Int32.toInt64 (ra S h0 (3 + v1))) (Int32.toInt64 (ra S h0 (15 + v1))))) * (f_203 (f_202 (Int32.toInt64 (ra S h0 (3 + v2))) (Int32.toInt64 (ra S h0 (15 + v2))) (Int32.toInt64 (ra S h0 (3 + (f_204 S h0 v2)))) (Int32.toInt64 (ra S h0 (15 + (f_204 S h0 v2)))) (Int32.toInt64 (ra S h0 (3 + (f_204 S h0 v1)))) (Int32.toInt64 (ra S h0 (15 + (f_204 S h0 v1))))))) < 0)))))))
def f_210 (S : ST) (h0 : Nat) (v1 : Int32) : Bool := (if ((ra S h0 (3 + v1)) - (ra S h0 (3 + (f_204 S h0 v1)))) = 0 then (!(decide (((ra S h0 (15 + v1)) - (ra S h0 (15 + (f_204 S h0 v1)))) = 0)) && (if ((ra S h0 (3 + (f_204 S h0 (f_204 S h0 v1)))) - (ra S h0 (3 + (f_204 S h0 v1)))) = 0 then (!(decide (((ra S h0 (15 + (f_204 S h0 (f_204 S h0 v1)))) - (ra S h0 (15 + (f_204 S h0 v1)))) = 0)) && (!(decide ((((ra S h0 (3 + v1)) - (ra S h0 (3 + (f_204 S h0 v1)))) * ((ra S h0 (15 + (f_204 S h0 (f_204 S h0 v1)))) - (ra S h0 (15 + (f_204 S h0 v1))))) = (((ra S h0 (15 + v1)) - (ra S h0 (15 + (f_204 S h0 v1)))) * ((ra S h0 (3 + (f_204 S h0 (f_204 S h0 v1)))) - (ra S h0 (3 + (f_204 S h0 v1))))))) || (decide (((((ra S h0 (3 + v1)) - (ra S h0 (3 + (f_204 S h0 v1)))) * ((ra S h0 (3 + (f_204 S h0 (f_204 S h0 v1)))) - (ra S h0 (3 + (f_204 S h0 v1))))) + (((ra S h0 (15 + v1)) - (ra S h0 (15 + (f_204 S h0 v1)))) * ((ra S h0 (15 + (f_204 S h0 (f_204 S h0 v1)))) - (ra S h0 (15 + (f_204 S h0 v1)))))) < 0)))) else (!(decide ((((ra S h0 (3 + v1)) - (ra S h0 (3 + (f_204 S h0 v1)))) * ((ra S h0 (15 + (f_204 S h0 (f_204 S h0 v1)))) - (ra S h0 (15 + (f_204 S h0 v1))))) = (((ra S h0 (15 + v1)) - (ra S h0 (15 + (f_204 S h0 v1)))) * ((ra S h0 (3 + (f_204 S h0 (f_204 S h0 v1)))) - (ra S h0 (3 + (f_204 S h0 v1))))))) || (decide (((((ra S h0 (3 + v1)) - (ra S h0 (3 + (f_204 S h0 v1)))) * ((ra S h0 (3 + (f_204 S h0 (f_204 S h0 v1)))) - (ra S h0 (3 + (f_204 S h0 v1))))) + (((ra S h0 (15 + v1)) - (ra S h0 (15 + (f_204 S h0 v1)))) * ((ra S h0 (15 + (f_204 S h0 (f_204 S h0 v1)))) - (ra S h0 (15 + (f_204 S h0 v1)))))) < 0))))) else (if ((ra S h0 (3 + (f_204 S h0 (f_204 S h0 v1)))) - (ra S h0 (3 + (f_204 S h0 v1)))) = 0 then (!(decide (((ra S h0 (15 + (f_204 S h0 (f_204 S h0 v1)))) - (ra S h0 (15 + (f_204 S h0 v1)))) = 0)) && (!(decide ((((ra S h0 (3 + v1)) - (ra S h0 (3 + (f_204 S h0 v1)))) * ((ra S h0 (15 + (f_204 S h0 (f_204 S h0 v1)))) - (ra S h0 (15 + (f_204 S h0 v1))))) = (((ra S h0 (15 + v1)) - (ra S h0 (15 + (f_204 S h0 v1)))) * ((ra S h0 (3 + (f_204 S h0 (f_204 S h0 v1)))) - (ra S h0 (3 + (f_204 S h0 v1))))))) || (decide (((((ra S h0 (3 + v1)) - (ra S h0 (3 + (f_204 S h0 v1)))) * ((ra S h0 (3 + (f_204 S h0 (f_204 S h0 v1)))) - (ra S h0 (3 + (f_204 S h0 v1))))) + (((ra S h0 (15 + v1)) - (ra S h0 (15 + (f_204 S h0 v1)))) * ((ra S h0 (15 + (f_204 S h0 (f_204 S h0 v1)))) - (ra S h0 (15 + (f_204 S h0 v1)))))) < 0)))) else (!(decide ((((ra S h0 (3 + v1)) - (ra S h0 (3 + (f_204 S h0 v1)))) * ((ra S h0 (15 + (f_204 S h0 (f_204 S h0 v1)))) - (ra S h0 (15 + (f_204 S h0 v1))))) = (((ra S h0 (15 + v1)) - (ra S h0 (15 + (f_204 S h0 v1)))) * ((ra S h0 (3 + (f_204 S h0 (f_204 S h0 v1)))) - (ra S h0 (3 + (f_204 S h0 v1))))))) || (decide (((((ra S h0 (3 + v1)) - (ra S h0 (3 + (f_204 S h0 v1)))) * ((ra S h0 (3 + (f_204 S h0 (f_204 S h0 v1)))) - (ra S h0 (3 + (f_204 S h0 v1))))) + (((ra S h0 (15 + v1)) - (ra S h0 (15 + (f_204 S h0 v1)))) * ((ra S h0 (15 + (f_204 S h0 (f_204 S h0 v1)))) - (ra S h0 (15 + (f_204 S h0 v1)))))) < 0)))))
/-- the inner search: two edges that meet -/
def p_211 (S : ST) (h0 i k : Nat) : Bool := !decide (f_204 S h0 (nJ k) = nJ i) && f_209 S h0 (nJ i) (nJ k)
def f_211 (S : ST) (h0 : Nat) : Bool := !(ay (fun i => !(f_210 S h0 (nJ i)) || ay (p_211 S h0 i) (i + 2) (rN S h0 - (i + 2))) 0 (rN S h0))
-- s2.mean
/-! what the reference's geometry means: the words of g1 to j1 -/
def bd (B : Int) (x : Int64) : Prop := -B ≤ x.toInt ∧ x.toInt ≤ B
def lP (x y : Int64) : GPt := (x.toInt, y.toInt)
theorem cross_t {v0 v2 v4 v6 v8 v10 : Int64} (h0 : bd 1000000 v0) (h2 : bd 1000000 v2) (h4 : bd 1000000 v4) (h6 : bd 1000000 v6) (h8 : bd 1000000 v8) (h10 : bd 1000000 v10) : (f_202 v0 v2 v4 v6 v8 v10).toInt = ge_o (lP v0 v2) (lP v4 v6) (lP v8 v10) := by
  unfold bd at *
  have d1 : (v4 - v0).toInt = v4.toInt - v0.toInt := lsub_t (by omega) (by omega)
  have d2 : (v10 - v2).toInt = v10.toInt - v2.toInt := lsub_t (by omega) (by omega)
  have d3 : (v6 - v2).toInt = v6.toInt - v2.toInt := lsub_t (by omega) (by omega)
  have d4 : (v8 - v0).toInt = v8.toInt - v0.toInt := lsub_t (by omega) (by omega)
  have m1 := mul_bd (a := (v4 - v0).toInt) (b := (v10 - v2).toInt) (A := 2000000) (B := 2000000) (by omega) (by omega) (by omega) (by omega)
  have m2 := mul_bd (a := (v6 - v2).toInt) (b := (v8 - v0).toInt) (A := 2000000) (B := 2000000) (by omega) (by omega) (by omega) (by omega)
  have e1 : ((v4 - v0) * (v10 - v2)).toInt = (v4 - v0).toInt * (v10 - v2).toInt := lmul_t (by omega) (by omega)
  have e2 : ((v6 - v2) * (v8 - v0)).toInt = (v6 - v2).toInt * (v8 - v0).toInt := lmul_t (by omega) (by omega)
  unfold f_202 ge_o lP
  rw [lsub_t (by omega) (by omega), e1, e2, d1, d2, d3, d4]
theorem i64_0 (x : Int64) : x = 0 ↔ x.toInt = 0 := ⟨fun h => by rw [h]; rfl, fun h => Int64.toInt_inj.mp h⟩
theorem i64_p (x : Int64) : (0 : Int64) < x ↔ 0 < x.toInt := Int64.lt_iff_toInt_lt
theorem i64_n (x : Int64) : x < 0 ↔ x.toInt < 0 := Int64.lt_iff_toInt_lt
theorem isOn_t {v0 v2 v4 v6 v8 v10 : Int64} (h0 : bd 1000000 v0) (h2 : bd 1000000 v2) (h4 : bd 1000000 v4) (h6 : bd 1000000 v6) (h8 : bd 1000000 v8) (h10 : bd 1000000 v10) : f_205 v0 v2 v4 v6 v8 v10 = true ↔ ge_on (lP v0 v2) (lP v4 v6) (lP v8 v10) := by
  have hc := cross_t h0 h2 h4 h6 h8 h10
  unfold bd at *
  have d1 : (v8 - v0).toInt = v8.toInt - v0.toInt := lsub_t (by omega) (by omega)
  have d2 : (v8 - v4).toInt = v8.toInt - v4.toInt := lsub_t (by omega) (by omega)
  have d3 : (v10 - v2).toInt = v10.toInt - v2.toInt := lsub_t (by omega) (by omega)
  have d4 : (v10 - v6).toInt = v10.toInt - v6.toInt := lsub_t (by omega) (by omega)
  have m1 := mul_bd (a := (v8 - v0).toInt) (b := (v8 - v4).toInt) (A := 2000000) (B := 2000000) (by omega) (by omega) (by omega) (by omega)
  have m2 := mul_bd (a := (v10 - v2).toInt) (b := (v10 - v6).toInt) (A := 2000000) (B := 2000000) (by omega) (by omega) (by omega) (by omega)
  have e1 : ((v8 - v0) * (v8 - v4)).toInt = (v8.toInt - v0.toInt) * (v8.toInt - v4.toInt) := by rw [lmul_t (by omega) (by omega), d1, d2]
  have e2 : ((v10 - v2) * (v10 - v6)).toInt = (v10.toInt - v2.toInt) * (v10.toInt - v6.toInt) := by rw [lmul_t (by omega) (by omega), d3, d4]
  unfold f_205 ge_on
  simp only [Bool.and_eq_true, Bool.not_eq_true', decide_eq_true_eq, decide_eq_false_iff_not, i64_0, i64_p, hc, e1, e2]
  show (¬ 0 < (v8.toInt - v0.toInt) * (v8.toInt - v4.toInt) ∧ ¬ 0 < (v10.toInt - v2.toInt) * (v10.toInt - v6.toInt)) ∧ ge_o (lP v0 v2) (lP v4 v6) (lP v8 v10) = 0 ↔ ge_o (lP v0 v2) (lP v4 v6) (lP v8 v10) = 0 ∧ (v8.toInt - v0.toInt) * (v8.toInt - v4.toInt) ≤ 0 ∧ (v10.toInt - v2.toInt) * (v10.toInt - v6.toInt) ≤ 0
  constructor
  · rintro ⟨⟨a, b⟩, c⟩; exact ⟨c, by omega, by omega⟩
  · rintro ⟨c, a, b⟩; exact ⟨⟨by omega, by omega⟩, c⟩
theorem f203_3 (x : Int64) : (0 < x.toInt ∧ f_203 x = 1) ∨ (x.toInt < 0 ∧ f_203 x = -1) ∨ (x.toInt = 0 ∧ f_203 x = 0) := by
  unfold f_203
  by_cases h1 : (0 : Int64) < x
  · rw [if_pos h1]; exact Or.inl ⟨(i64_p x).mp h1, rfl⟩
  · rw [if_neg h1]
    have g1 : ¬ 0 < x.toInt := fun q => h1 ((i64_p x).mpr q)
    by_cases h2 : x < 0
    · rw [if_pos h2]; exact Or.inr (Or.inl ⟨(i64_n x).mp h2, rfl⟩)
    · rw [if_neg h2]
      have g2 : ¬ x.toInt < 0 := fun q => h2 ((i64_n x).mpr q)
      exact Or.inr (Or.inr ⟨by omega, rfl⟩)
theorem sg_mul (a b : Int64) : f_203 a * f_203 b < 0 ↔ a.toInt * b.toInt < 0 := by
  rcases f203_3 a with ⟨ha, ea⟩ | ⟨ha, ea⟩ | ⟨ha, ea⟩ <;> rcases f203_3 b with ⟨hb, eb⟩ | ⟨hb, eb⟩ | ⟨hb, eb⟩ <;> rw [ea, eb]
  · have := Int.mul_pos ha hb
    exact ⟨fun q => absurd q (by decide), fun q => by omega⟩
  · have := Int.mul_neg_of_pos_of_neg ha hb
    exact ⟨fun _ => this, fun _ => by decide⟩
  · rw [hb, Int.mul_zero]
    exact ⟨fun q => absurd q (by decide), fun q => by omega⟩
  · have := Int.mul_neg_of_neg_of_pos ha hb
    exact ⟨fun _ => this, fun _ => by decide⟩
  · have := Int.mul_pos_of_neg_of_neg ha hb
    exact ⟨fun q => absurd q (by decide), fun q => by omega⟩
  · rw [hb, Int.mul_zero]
    exact ⟨fun q => absurd q (by decide), fun q => by omega⟩
  · rw [ha, Int.zero_mul]
    exact ⟨fun q => absurd q (by decide), fun q => by omega⟩
  · rw [ha, Int.zero_mul]
    exact ⟨fun q => absurd q (by decide), fun q => by omega⟩
  · rw [ha, Int.zero_mul]
    exact ⟨fun q => absurd q (by decide), fun q => by omega⟩
/-- the i-th vertex of a row; the polygon; coordinates in the square -/
def rP (S : ST) (h i : Nat) : GPt := ((S.1 h (3 + i)).toInt, (S.1 h (15 + i)).toInt)
def rL (S : ST) (h : Nat) : List GPt := ge_pl (rN S h) (rP S h)
def RB (S : ST) (h : Nat) : Prop := ∀ j, 3 ≤ j → j < 27 → 0 ≤ (S.1 h j).toInt ∧ (S.1 h j).toInt ≤ 15
section Row
variable {S : ST} {h i : Nat}
theorem RB_x (hB : RB S h) (hi : i < 12) : 0 ≤ (rP S h i).1 ∧ (rP S h i).1 ≤ 15 := hB (3 + i) (by omega) (by omega)
theorem RB_y (hB : RB S h) (hi : i < 12) : 0 ≤ (rP S h i).2 ∧ (rP S h i).2 ≤ 15 := hB (15 + i) (by omega) (by omega)
/-- a coordinate times the scale -/
theorem sx_t (hB : RB S h) (hi : i < 12) {m : Int64} (h0 : 0 < m.toInt) (h1 : m.toInt ≤ 1000) : (Int32.toInt64 (ra S h (3 + nJ i)) * m).toInt = (ge_s m.toInt (rP S h i)).1 ∧ bd 1000000 (Int32.toInt64 (ra S h (3 + nJ i)) * m) := by
  have b := RB_x hB hi
  have e : (Int32.toInt64 (ra S h (3 + nJ i))).toInt = (rP S h i).1 := by rw [Int32.toInt_toInt64, ra_3 S h (by omega)]; rfl
  have q := mul_bd (a := (rP S h i).1) (b := m.toInt) (A := 15) (B := 1000) (by omega) (by omega) (by omega) (by omega)
  have e2 : (Int32.toInt64 (ra S h (3 + nJ i)) * m).toInt = (rP S h i).1 * m.toInt := by rw [lmul_t (by rw [e]; omega) (by rw [e]; omega), e]
  exact ⟨by rw [e2]; exact Int.mul_comm _ _, by unfold bd; rw [e2]; omega⟩
theorem sy_t (hB : RB S h) (hi : i < 12) {m : Int64} (h0 : 0 < m.toInt) (h1 : m.toInt ≤ 1000) : (Int32.toInt64 (ra S h (15 + nJ i)) * m).toInt = (ge_s m.toInt (rP S h i)).2 ∧ bd 1000000 (Int32.toInt64 (ra S h (15 + nJ i)) * m) := by
  have b := RB_y hB hi
  have e : (Int32.toInt64 (ra S h (15 + nJ i))).toInt = (rP S h i).2 := by rw [Int32.toInt_toInt64, ra_15 S h (by omega)]; rfl
  have q := mul_bd (a := (rP S h i).2) (b := m.toInt) (A := 15) (B := 1000) (by omega) (by omega) (by omega) (by omega)
  have e2 : (Int32.toInt64 (ra S h (15 + nJ i)) * m).toInt = (rP S h i).2 * m.toInt := by rw [lmul_t (by rw [e]; omega) (by rw [e]; omega), e]
  exact ⟨by rw [e2]; exact Int.mul_comm _ _, by unfold bd; rw [e2]; omega⟩
theorem sP_t (hB : RB S h) (hi : i < 12) {m : Int64} (h0 : 0 < m.toInt) (h1 : m.toInt ≤ 1000) : lP (Int32.toInt64 (ra S h (3 + nJ i)) * m) (Int32.toInt64 (ra S h (15 + nJ i)) * m) = ge_s m.toInt (rP S h i) := Prod.ext (sx_t hB hi h0 h1).1 (sy_t hB hi h0 h1).1
theorem rx_t (hB : RB S h) (hi : i < 12) : (Int32.toInt64 (ra S h (3 + nJ i))).toInt = (rP S h i).1 ∧ bd 1000000 (Int32.toInt64 (ra S h (3 + nJ i))) := by
  have b := RB_x hB hi
  have e : (Int32.toInt64 (ra S h (3 + nJ i))).toInt = (rP S h i).1 := by rw [Int32.toInt_toInt64, ra_3 S h (by omega)]; rfl
  exact ⟨e, by unfold bd; rw [e]; omega⟩
theorem ry_t (hB : RB S h) (hi : i < 12) : (Int32.toInt64 (ra S h (15 + nJ i))).toInt = (rP S h i).2 ∧ bd 1000000 (Int32.toInt64 (ra S h (15 + nJ i))) := by
  have b := RB_y hB hi
  have e : (Int32.toInt64 (ra S h (15 + nJ i))).toInt = (rP S h i).2 := by rw [Int32.toInt_toInt64, ra_15 S h (by omega)]; rfl
  exact ⟨e, by unfold bd; rw [e]; omega⟩
theorem rP_t (hB : RB S h) (hi : i < 12) : lP (Int32.toInt64 (ra S h (3 + nJ i))) (Int32.toInt64 (ra S h (15 + nJ i))) = rP S h i := Prod.ext (rx_t hB hi).1 (ry_t hB hi).1
theorem onEdge_t (hW : RW S h) (hB : RB S h) (hi : i < rN S h) {x y m : Int64} (h0 : 0 < m.toInt) (h1 : m.toInt ≤ 1000) (hx : bd 1000000 x) (hy : bd 1000000 y) : f_206 S h (nJ i) x y m = true ↔ ge_on (ge_s m.toInt (rP S h i)) (ge_s m.toInt (rP S h (ge_aft (rN S h) i))) (lP x y) := by
  have h12 := hW.2
  have hj := ge_aft_lt hi
  unfold f_206
  rw [f204_eq hW hi, isOn_t (sx_t hB (by omega) h0 h1).2 (sy_t hB (by omega) h0 h1).2 (sx_t hB (by omega) h0 h1).2 (sy_t hB (by omega) h0 h1).2 hx hy, sP_t hB (by omega) h0 h1, sP_t hB (by omega) h0 h1]
theorem S_E {m : Int} {n : Nat} {f : Nat → GPt} {e : GPt × GPt} : e ∈ ge_E (ge_S m (ge_pl n f)) ↔ ∃ i, i < n ∧ e = (ge_s m (f i), ge_s m (f (ge_aft n i))) := by
  rw [ge_E_S, ge_E_pl]
  simp only [List.mem_map, List.mem_range]
  constructor
  · rintro ⟨q, ⟨i, hi, rfl⟩, rfl⟩; exact ⟨i, hi, rfl⟩
  · rintro ⟨i, hi, rfl⟩; exact ⟨_, ⟨i, hi, rfl⟩, rfl⟩
theorem onB_t (hW : RW S h) (hB : RB S h) {x y m : Int64} (h0 : 0 < m.toInt) (h1 : m.toInt ≤ 1000) (hx : bd 1000000 x) (hy : bd 1000000 y) : f_207 S h x y m = true ↔ ¬ ge_off (ge_S m.toInt (rL S h)) (lP x y) := by
  unfold f_207
  rw [ay_iff]
  constructor
  · rintro ⟨j, -, hj, hp⟩ q
    exact q _ (S_E.mpr ⟨j, by omega, rfl⟩) ((onEdge_t hW hB (by omega) h0 h1 hx hy).mp hp)
  · intro hn
    apply Classical.byContradiction
    intro hz
    apply hn
    intro e he z
    obtain ⟨i, hi, rfl⟩ := S_E.mp he
    exact hz ⟨i, by omega, by omega, (onEdge_t hW hB hi h0 h1 hx hy).mpr z⟩
theorem pp_xor (p : GPt) : ∀ l : List GPt, ge_pp l p = (ge_ed l).foldr (fun e b => ge_cs e.1 e.2 p != b) false
  | [] => rfl
  | [_] => rfl
  | a :: b :: r => by
    show (ge_cs a b p != ge_pp (b :: r) p) = (ge_cs a b p != (ge_ed (b :: r)).foldr (fun e b => ge_cs e.1 e.2 p != b) false)
    rw [pp_xor p (b :: r)]
theorem fr_xor (g : Nat → Bool) : ∀ (m i : Nat) (a : Bool), fr (fun i a => (a != g i)) i m a = (a != ((List.range' i m).map g).foldr (fun e b => (e != b)) false) := by
  intro m
  induction m with
  | zero => intro i a; show a = _; simp
  | succ m ih =>
    intro i a
    show fr (fun i a => (a != g i)) (i + 1) m (a != g i) = _
    rw [ih, List.range'_succ, List.map_cons, List.foldr_cons]
    cases a <;> cases g i <;> simp
theorem fr_cong {α : Type} {f g : Nat → α → α} {n : Nat} (h : ∀ i a, i < n → f i a = g i a) : ∀ (m i : Nat) (a : α), i + m = n → fr f i m a = fr g i m a := by
  intro m
  induction m with
  | zero => intro i a _; rfl
  | succ m ih =>
    intro i a hi
    show fr f (i + 1) m (f i a) = fr g (i + 1) m (g i a)
    rw [h i a (by omega), ih _ _ (by omega)]
theorem foldr_cong {α : Type} (l : List α) (f g : α → Bool) (h : ∀ x ∈ l, f x = g x) : (l.map f).foldr (fun e b => (e != b)) false = (l.map g).foldr (fun e b => (e != b)) false := by
  rw [List.map_congr_left h]
theorem isIn_t (hW : RW S h) (hB : RB S h) {x y m : Int64} (h0 : 0 < m.toInt) (h1 : m.toInt ≤ 1000) (hx : bd 1000000 x) (hy : bd 1000000 y) : f_208 S h x y m = true ↔ ge_cl m.toInt (rL S h) (lP x y) := by
  have h12 := hW.2
  have hO := onB_t hW hB h0 h1 hx hy
  unfold f_208 ge_cl
  by_cases hq : f_207 S h x y m = true
  · rw [if_pos hq]
    exact ⟨fun _ z => absurd z (hO.mp hq), fun _ => rfl⟩
  · rw [if_neg hq]
    have off : ge_off (ge_S m.toInt (rL S h)) (lP x y) := Classical.byContradiction fun z => hq (hO.mpr z)
    have hst : ∀ i a, i < rN S h → st8 S h x y m i a = (a != ge_cs (ge_s m.toInt (rP S h i)) (ge_s m.toInt (rP S h (ge_aft (rN S h) i))) (lP x y)) := by
      intro i a hi
      have hj := ge_aft_lt hi
      have n1 : ¬ ge_on (ge_s m.toInt (rP S h i)) (ge_s m.toInt (rP S h (ge_aft (rN S h) i))) (lP x y) := off _ (S_E.mpr ⟨i, hi, rfl⟩)
      rw [ge_cs_cr n1]
      have xi := sx_t hB (i := i) (by omega) h0 h1
      have yi := sy_t hB (i := i) (by omega) h0 h1
      have xj := sx_t hB (i := ge_aft (rN S h) i) (by omega) h0 h1
      have yj := sy_t hB (i := ge_aft (rN S h) i) (by omega) h0 h1
      have hcr := cross_t xi.2 yi.2 xj.2 yj.2 hx hy
      rw [sP_t hB (by omega) h0 h1, sP_t hB (by omega) h0 h1] at hcr
      unfold st8 ge_cr
      rw [f204_eq hW hi]
      simp only [Int64.lt_iff_toInt_lt, yi.1, yj.1, hcr]
      show (if decide (y.toInt < _) = decide (y.toInt < _) then a else if decide (_ < _) = decide ((0 : Int) < _) then !a else a) = (a != ((decide (y.toInt < _) != decide (y.toInt < _)) && (decide (_ < _) == decide ((0 : Int) < _))))
      generalize decide (y.toInt < (ge_s m.toInt (rP S h i)).2) = b1
      generalize decide (y.toInt < (ge_s m.toInt (rP S h (ge_aft (rN S h) i))).2) = b2
      generalize decide ((ge_s m.toInt (rP S h i)).2 < (ge_s m.toInt (rP S h (ge_aft (rN S h) i))).2) = b3
      generalize decide ((0 : Int) < ge_o (ge_s m.toInt (rP S h i)) (ge_s m.toInt (rP S h (ge_aft (rN S h) i))) (lP x y)) = b4
      cases a <;> cases b1 <;> cases b2 <;> cases b3 <;> cases b4 <;> rfl
    have hpar : fr (st8 S h x y m) 0 (rN S h) false = ge_par (ge_S m.toInt (rL S h)) (lP x y) := by
      rw [fr_cong hst (rN S h) 0 false (by omega), fr_xor]
      unfold ge_par
      rw [pp_xor]
      show _ = (ge_E (ge_S m.toInt (rL S h))).foldr _ false
      unfold rL
      rw [ge_E_S, ge_E_pl, List.foldr_map, List.foldr_map, ← List.range_eq_range', List.foldr_map]
      simp
    rw [hpar]
    exact ⟨fun q _ => q, fun q => q off⟩
theorem meet_t (hW : RW S h) (hB : RB S h) {k : Nat} (hi : i < rN S h) (hk : k < rN S h) : f_209 S h (nJ i) (nJ k) = true ↔ ge_meet (rP S h i) (rP S h (ge_aft (rN S h) i)) (rP S h k) (rP S h (ge_aft (rN S h) k)) := by
  have h12 := hW.2
  have hj := ge_aft_lt hi
  have hl := ge_aft_lt hk
  have X : ∀ {i : Nat}, i < rN S h → bd 1000000 (Int32.toInt64 (ra S h (3 + nJ i))) := fun q => (rx_t hB (by omega)).2
  have Y : ∀ {i : Nat}, i < rN S h → bd 1000000 (Int32.toInt64 (ra S h (15 + nJ i))) := fun q => (ry_t hB (by omega)).2
  have P : ∀ {i : Nat}, i < rN S h → lP (Int32.toInt64 (ra S h (3 + nJ i))) (Int32.toInt64 (ra S h (15 + nJ i))) = rP S h i := fun q => rP_t hB (by omega)
  unfold f_209 ge_meet
  rw [f204_eq hW hi, f204_eq hW hk]
  simp only [Bool.or_eq_true, Bool.and_eq_true, decide_eq_true_eq, sg_mul]
  rw [isOn_t (X hi) (Y hi) (X hj) (Y hj) (X hk) (Y hk), isOn_t (X hi) (Y hi) (X hj) (Y hj) (X hl) (Y hl), isOn_t (X hk) (Y hk) (X hl) (Y hl) (X hi) (Y hi), isOn_t (X hk) (Y hk) (X hl) (Y hl) (X hj) (Y hj), cross_t (X hi) (Y hi) (X hj) (Y hj) (X hk) (Y hk), cross_t (X hi) (Y hi) (X hj) (Y hj) (X hl) (Y hl), cross_t (X hk) (Y hk) (X hl) (Y hl) (X hi) (Y hi), cross_t (X hk) (Y hk) (X hl) (Y hl) (X hj) (Y hj), P hi, P hj, P hk, P hl]
theorem i32_0 (x : Int32) : x = 0 ↔ x.toInt = 0 := ⟨fun h => by rw [h]; rfl, fun h => Int32.toInt_inj.mp h⟩
theorem bent_t (hW : RW S h) (hB : RB S h) (hi : i < rN S h) : f_210 S h (nJ i) = true ↔ ge_bent (rP S h i) (rP S h (ge_aft (rN S h) i)) (rP S h (ge_aft (rN S h) (ge_aft (rN S h) i))) := by
  have h12 := hW.2
  have hj := ge_aft_lt hi
  have hk := ge_aft_lt hj
  unfold f_210
  rw [f204_eq hW hi, f204_eq hW hj, ra_3 S h (by omega), ra_3 S h (by omega), ra_3 S h (by omega), ra_15 S h (by omega), ra_15 S h (by omega), ra_15 S h (by omega)]
  generalize hj' : ge_aft (rN S h) i = j at *
  generalize hk' : ge_aft (rN S h) j = k at *
  have xi := hB (3 + i) (by omega) (by omega)
  have yi := hB (15 + i) (by omega) (by omega)
  have xj := hB (3 + j) (by omega) (by omega)
  have yj := hB (15 + j) (by omega) (by omega)
  have xk := hB (3 + k) (by omega) (by omega)
  have yk := hB (15 + k) (by omega) (by omega)
  have A : (S.1 h (3 + i) - S.1 h (3 + j)).toInt = (rP S h i).1 - (rP S h j).1 := isub_t (by omega) (by omega)
  have B : (S.1 h (15 + i) - S.1 h (15 + j)).toInt = (rP S h i).2 - (rP S h j).2 := isub_t (by omega) (by omega)
  have C : (S.1 h (3 + k) - S.1 h (3 + j)).toInt = (rP S h k).1 - (rP S h j).1 := isub_t (by omega) (by omega)
  have D : (S.1 h (15 + k) - S.1 h (15 + j)).toInt = (rP S h k).2 - (rP S h j).2 := isub_t (by omega) (by omega)
  have a1 := RB_x hB (i := i) (by omega)
  have a2 := RB_y hB (i := i) (by omega)
  have a3 := RB_x hB (i := j) (by omega)
  have a4 := RB_y hB (i := j) (by omega)
  have a5 := RB_x hB (i := k) (by omega)
  have a6 := RB_y hB (i := k) (by omega)
  generalize S.1 h (3 + i) - S.1 h (3 + j) = a at *
  generalize S.1 h (15 + i) - S.1 h (15 + j) = b at *
  generalize S.1 h (3 + k) - S.1 h (3 + j) = c at *
  generalize S.1 h (15 + k) - S.1 h (15 + j) = e at *
  have q1 := mul_bd (a := a.toInt) (b := e.toInt) (A := 15) (B := 15) (by omega) (by omega) (by omega) (by omega)
  have q2 := mul_bd (a := b.toInt) (b := c.toInt) (A := 15) (B := 15) (by omega) (by omega) (by omega) (by omega)
  have q3 := mul_bd (a := a.toInt) (b := c.toInt) (A := 15) (B := 15) (by omega) (by omega) (by omega) (by omega)
  have q4 := mul_bd (a := b.toInt) (b := e.toInt) (A := 15) (B := 15) (by omega) (by omega) (by omega) (by omega)
  have m1 : (a * e).toInt = a.toInt * e.toInt := imul_t (by omega) (by omega)
  have m2 : (b * c).toInt = b.toInt * c.toInt := imul_t (by omega) (by omega)
  have m3 : (a * c).toInt = a.toInt * c.toInt := imul_t (by omega) (by omega)
  have m4 : (b * e).toInt = b.toInt * e.toInt := imul_t (by omega) (by omega)
  have m5 : (a * c + b * e).toInt = a.toInt * c.toInt + b.toInt * e.toInt := by rw [iadd_t (by omega) (by omega), m3, m4]
  have c1 : a * e = b * c ↔ a.toInt * e.toInt = b.toInt * c.toInt := by rw [← Int32.toInt_inj, m1, m2]
  have c2 : a * c + b * e < 0 ↔ a.toInt * c.toInt + b.toInt * e.toInt < 0 := by rw [Int32.lt_iff_toInt_lt, m5]; rfl
  have n1 : (rP S h i ≠ rP S h j) ↔ ¬ (a = 0 ∧ b = 0) := by
    rw [i32_0, i32_0, A, B]
    constructor
    · intro q z; exact q (Prod.ext (by omega) (by omega))
    · intro q z; rw [z] at q; exact q ⟨by omega, by omega⟩
  have n2 : (rP S h k ≠ rP S h j) ↔ ¬ (c = 0 ∧ e = 0) := by
    rw [i32_0, i32_0, C, D]
    constructor
    · intro q z; exact q (Prod.ext (by omega) (by omega))
    · intro q z; rw [z] at q; exact q ⟨by omega, by omega⟩
  unfold ge_bent
  rw [n1, n2, ← A, ← B, ← C, ← D]
  rcases Classical.propComplete (a = 0) with z1 | z1 <;> rcases Classical.propComplete (b = 0) with z2 | z2 <;> rcases Classical.propComplete (c = 0) with z3 | z3 <;> rcases Classical.propComplete (e = 0) with z4 | z4 <;> simp only [z1, z2, z3, z4, c1, c2, if_true, if_false, decide_true, decide_false, Bool.not_true, Bool.not_false, Bool.true_and, Bool.false_and, Bool.false_eq_true, Bool.or_eq_true, Bool.not_eq_true', decide_eq_true_eq, decide_eq_false_iff_not, and_true, true_and, and_false, false_and, not_true_eq_false, not_false_eq_true, ne_eq]
theorem simp_t (hW : RW S h) (hB : RB S h) : f_211 S h = true ↔ ge_simp (rN S h) (rP S h) := by
  have h12 := hW.2
  unfold f_211 ge_simp
  rw [Bool.not_eq_true', ← Bool.not_eq_true, ay_iff]
  constructor
  · intro q
    refine ⟨fun i hi => ?_, fun i k h1 h2 h3 z => ?_⟩
    · apply (bent_t hW hB hi).mp
      apply Classical.byContradiction
      intro z
      refine q ⟨i, by omega, by omega, ?_⟩
      rw [Bool.or_eq_true, Bool.not_eq_true']
      exact Or.inl (by simpa using z)
    · refine q ⟨i, by omega, by omega, ?_⟩
      rw [Bool.or_eq_true]
      refine Or.inr ((ay_iff _ _ _).mpr ⟨k, h1, by omega, ?_⟩)
      unfold p_211
      rw [(meet_t hW hB (by omega) h2).mpr z, f204_eq hW h2, decide_eq_false (fun e => h3 ((nJ_eq (by have := ge_aft_lt h2; omega) (by omega)).mp e))]
      rfl
  · rintro ⟨q1, q2⟩ ⟨i, -, hi, hp⟩
    rw [Bool.or_eq_true] at hp
    rcases hp with hp | hp
    · rw [(bent_t hW hB (by omega)).mpr (q1 i (by omega))] at hp
      cases hp
    · obtain ⟨k, k1, k2, k3⟩ := (ay_iff _ _ _).mp hp
      unfold p_211 at k3
      rw [Bool.and_eq_true, f204_eq hW (by omega)] at k3
      refine q2 i k k1 (by omega) (fun e => ?_) ((meet_t hW hB (by omega) (by omega)).mp k3.2)
      rw [e] at k3
      simp at k3
end Row
-- s3.points
/-! the reference's points: how many, where, their numbers -/
theorem ne_t {b : Bool} (h : b = false) : ¬ b = true := by rw [h]; exact Bool.false_ne_true
def li (x : Nat) : Int64 := Int32.toInt64 (nJ x)
theorem li_t {x : Nat} (h : x < 2147483648) : (li x).toInt = x := by unfold li; rw [Int32.toInt_toInt64, nJ_toInt h]
/-- how many of the first t have p -/
def rk (p : Nat → Bool) : Nat → Nat
  | 0 => 0
  | t + 1 => rk p t + (if p t = true then 1 else 0)
theorem rk_le (p : Nat → Bool) : ∀ t, rk p t ≤ t
  | 0 => Nat.le_refl _
  | t + 1 => by
    have := rk_le p t
    show rk p t + (if p t = true then 1 else 0) ≤ t + 1
    split <;> omega
theorem rk_mono (p : Nat → Bool) {s t : Nat} (h : s ≤ t) : rk p s ≤ rk p t := by
  induction t with
  | zero => have : s = 0 := by omega
            subst this; exact Nat.le_refl _
  | succ t ih =>
    by_cases hs : s = t + 1
    · subst hs; exact Nat.le_refl _
    · have := ih (by omega)
      show _ ≤ rk p t + (if p t = true then 1 else 0)
      omega
theorem rk_lt {p : Nat → Bool} {s t : Nat} (h : s < t) (hp : p s = true) : rk p s < rk p t := by
  have h1 := rk_mono p (show s + 1 ≤ t from h)
  have h2 : rk p (s + 1) = rk p s + 1 := by
    show rk p s + (if p s = true then 1 else 0) = _
    rw [if_pos hp]
  omega
theorem rk_inj {p : Nat → Bool} {s t : Nat} (hs : p s = true) (ht : p t = true) (h : rk p s = rk p t) : s = t := by
  rcases Nat.lt_trichotomy s t with q | q | q
  · have := rk_lt q hs; omega
  · exact q
  · have := rk_lt q ht; omega
theorem rk_ex (p : Nat → Bool) : ∀ {t j : Nat}, j < rk p t → ∃ s, s < t ∧ p s = true ∧ rk p s = j
  | 0, j, h => by cases h
  | t + 1, j, h => by
    by_cases hj : j < rk p t
    · obtain ⟨s, h1, h2, h3⟩ := rk_ex p hj
      exact ⟨s, by omega, h2, h3⟩
    · have h' : j < rk p t + (if p t = true then 1 else 0) := h
      by_cases hp : p t = true
      · rw [if_pos hp] at h'
        exact ⟨t, by omega, hp, by omega⟩
      · rw [if_neg hp] at h'
        omega
theorem rk_cong {p q : Nat → Bool} : ∀ {t : Nat}, (∀ s, s < t → p s = q s) → rk p t = rk q t
  | 0, _ => rfl
  | t + 1, h => by
    show rk p t + (if p t = true then 1 else 0) = rk q t + (if q t = true then 1 else 0)
    rw [rk_cong (fun s hs => h s (by omega)), h t (by omega)]
/-- the t-th place of the square belongs to the row's polygon -/
def inp (S : ST) (h : Nat) (t : Nat) : Bool := f_208 S h (li (t % 16)) (li (t / 16)) 1
theorem inp_xy (S : ST) (h : Nat) {x y : Nat} (hx : x < 16) : inp S h (16 * y + x) = f_208 S h (li x) (li y) 1 := by
  unfold inp
  rw [show (16 * y + x) % 16 = x by omega, show (16 * y + x) / 16 = y by omega]
theorem nJ_b (n : Nat) (b : Bool) : nJ n + b2i b = nJ (n + (if b = true then 1 else 0)) := by
  cases b
  · exact nJ_add n 0
  · exact nJ_add n 1
def f_212 (S : ST) (h0 : Nat) : Int32 := nJ (rk (inp S h0) 256)
def f_213 (S : ST) (h0 : Nat) : Bool := ((f_182 (S.1 h0 0) 3 12) && ((f_211 S h0) && (!(decide ((64 : Int32) < (f_212 S h0))))))
theorem f182_t {v a b : Int32} : f_182 v a b = true ↔ a.toInt ≤ v.toInt ∧ v.toInt ≤ b.toInt := by
  unfold f_182
  simp only [Bool.and_eq_true, Bool.not_eq_true', decide_eq_false_iff_not, Int32.lt_iff_toInt_lt]
  omega
theorem RW_of {S : ST} {h : Nat} (h0 : 0 ≤ (S.1 h 0).toInt) (h1 : (S.1 h 0).toInt ≤ 12) : RW S h := by
  refine ⟨nJ_of h0, ?_⟩
  show (S.1 h 0).toInt.toNat ≤ 12
  omega
theorem RW_in {S : ST} {h : Nat} (q : f_182 (S.1 h 0) 3 12 = true) : RW S h := by
  have := f182_t.mp q
  have a1 : (3 : Int) ≤ (S.1 h 0).toInt := this.1
  have a2 : (S.1 h 0).toInt ≤ 12 := this.2
  exact RW_of (by omega) a2
def st_214_15 (S : ST) (v1 : Int32) (v2 : Int32) : ST := (if (f_208 S 141 (Int32.toInt64 v2) (Int32.toInt64 v1) 1) = true then (wI (wI (wI (wI S 149 (Int32.toNatClampNeg ((16 * v1) + v2)) (if (f_208 S 141 (Int32.toInt64 v2) (Int32.toInt64 v1) 1) = true then S.1 140 20 else (-1))) 147 (Int32.toNatClampNeg (S.1 140 20)) v2) 148 (Int32.toNatClampNeg (S.1 140 20)) v1) 140 20 ((S.1 140 20) + 1)) else (wI S 149 (Int32.toNatClampNeg ((16 * v1) + v2)) (if (f_208 S 141 (Int32.toInt64 v2) (Int32.toInt64 v1) 1) = true then S.1 140 20 else (-1))))
/-- frames: arrays that may move, fields of the model that may move -/
def Fm (hs fs : List Nat) (S S' : ST) : Prop := (∀ h k, h ∉ hs → (h = 140 → k ∉ fs) → S'.1 h k = S.1 h k) ∧ ∀ h k, h ∉ hs → S'.2 h k = S.2 h k
theorem Fm.rf {hs fs : List Nat} {S : ST} : Fm hs fs S S := ⟨fun _ _ _ _ => rfl, fun _ _ _ => rfl⟩
theorem Fm.tr {hs fs : List Nat} {S S1 S2 : ST} (h : Fm hs fs S S1) (h' : Fm hs fs S1 S2) : Fm hs fs S S2 := ⟨fun a b x y => (h'.1 a b x y).trans (h.1 a b x y), fun a b x => (h'.2 a b x).trans (h.2 a b x)⟩
theorem Fm.wk {hs fs hs' fs' : List Nat} {S S' : ST} (h : Fm hs fs S S') (h1 : ∀ x ∈ hs, x ∈ hs') (h2 : ∀ x ∈ fs, x ∈ fs') : Fm hs' fs' S S' := ⟨fun a b x y => h.1 a b (fun q => x (h1 _ q)) (fun e q => y e (h2 _ q)), fun a b x => h.2 a b (fun q => x (h1 _ q))⟩
theorem Fm_a {hs fs : List Nat} {S : ST} {h q : Nat} {v : Int32} (hh : h ∈ hs) : Fm hs fs S (wI S h q v) := ⟨fun a b x _ => by rw [wI_1, if_neg (fun z => x (by rw [z.1]; exact hh))], fun _ _ _ => rfl⟩
theorem Fm_f {hs fs : List Nat} {S : ST} {q : Nat} {v : Int32} (hh : q ∈ fs) : Fm hs fs S (wI S 140 q v) := ⟨fun a b _ y => by rw [wI_1, if_neg (fun z => y z.1 (by rw [z.2]; exact hh))], fun _ _ _ => rfl⟩
theorem Fm_l {hs fs : List Nat} {S : ST} {h q : Nat} {v : Int64} (hh : h ∈ hs) : Fm hs fs S (wL S h q v) := ⟨fun _ _ _ _ => rfl, fun a b x => by rw [wL_2, if_neg (fun z => x (by rw [z.1]; exact hh))]⟩
theorem Fm.row {hs fs : List Nat} {S S' : ST} (h : Fm hs fs S S') {a : Nat} (h1 : a ∉ hs) (h2 : a ≠ 140) : S'.1 a = S.1 a := funext fun k => h.1 a k h1 (fun e => absurd e h2)
theorem Fm.rowL {hs fs : List Nat} {S S' : ST} (h : Fm hs fs S S') {a : Nat} (h1 : a ∉ hs) : S'.2 a = S.2 a := funext fun k => h.2 a k h1
theorem Fm.fld {hs fs : List Nat} {S S' : ST} (h : Fm hs fs S S') (h0 : 140 ∉ hs) {k : Nat} (h1 : k ∉ fs) : S'.1 140 k = S.1 140 k := h.1 140 k h0 (fun _ => h1)
/-- the geometry looks at the row alone -/
theorem f204_row {S S' : ST} {h : Nat} (e : S'.1 h = S.1 h) (v : Int32) : f_204 S' h v = f_204 S h v := by unfold f_204; rw [e]
theorem ra_row {S S' : ST} {h : Nat} (e : S'.1 h = S.1 h) (v : Int32) : ra S' h v = ra S h v := by unfold ra; rw [e]
theorem rN_row {S S' : ST} {h : Nat} (e : S'.1 h = S.1 h) : rN S' h = rN S h := by unfold rN; rw [e]
theorem RW_row {S S' : ST} {h : Nat} (e : S'.1 h = S.1 h) (hW : RW S h) : RW S' h := by
  unfold RW at *
  rw [rN_row e, e]
  exact hW
theorem f206_row {S S' : ST} {h : Nat} (e : S'.1 h = S.1 h) : f_206 S' h = f_206 S h := by
  funext v1 v2 v4 v6
  unfold f_206
  rw [f204_row e, ra_row e, ra_row e, ra_row e, ra_row e]
theorem f208_row {S S' : ST} {h : Nat} (e : S'.1 h = S.1 h) : f_208 S' h = f_208 S h := by
  funext v1 v3 v5
  have e7 : f_207 S' h = f_207 S h := by
    funext v1 v3 v5
    unfold f_207
    rw [f206_row e, rN_row e]
  have e8 : st8 S' h = st8 S h := by
    funext v1 v3 v5 i a
    unfold st8
    rw [f204_row e, ra_row e, ra_row e, ra_row e, ra_row e]
  unfold f_208
  rw [e7, e8, rN_row e]
theorem inp_row {S S' : ST} {h : Nat} (e : S'.1 h = S.1 h) : inp S' h = inp S h := by
  funext t
  unfold inp
  rw [f208_row e]
def g_214 (S : ST) : ST := fr (fun y S => fr (fun x S => st_214_15 S (nJ y) (nJ x)) 0 16 S) 0 16 (wI S 140 20 0)
/-- the first T places are laid -/
def LdT (S S' : ST) (T : Nat) : Prop := S'.1 140 20 = nJ (rk (inp S 141) T) ∧ (∀ t, t < T → (inp S 141 t = true → S'.1 147 (rk (inp S 141) t) = nJ (t % 16) ∧ S'.1 148 (rk (inp S 141) t) = nJ (t / 16) ∧ S'.1 149 t = nJ (rk (inp S 141) t)) ∧ (inp S 141 t = false → S'.1 149 t = -1)) ∧ Fm [147, 148, 149] [20] S S'
theorem LdT_step {S S' : ST} {x y : Nat} (hx : x < 16) (hy : y < 16) (h64 : rk (inp S 141) 256 ≤ 64) (h : LdT S S' (16 * y + x)) : LdT S (st_214_15 S' (nJ y) (nJ x)) (16 * y + (x + 1)) := by
  obtain ⟨h1, h2, h3⟩ := h
  have e := h3.row (a := 141) (by decide) (by decide)
  have hp : f_208 S' 141 (Int32.toInt64 (nJ x)) (Int32.toInt64 (nJ y)) 1 = inp S 141 (16 * y + x) := by rw [f208_row e, inp_xy S 141 hx]; rfl
  have hix : Int32.toNatClampNeg ((16 * nJ y) + nJ x) = 16 * y + x := by
    show Int32.toNatClampNeg ((nJ 16 * nJ y) + nJ x) = _
    rw [nJ_mul, nJ_add, nJ_ix (by omega)]
  have hrk : ∀ t, t ≤ 256 → rk (inp S 141) t ≤ 64 := fun t ht => Nat.le_trans (rk_mono _ ht) h64
  unfold st_214_15
  rw [hp, hix]
  have hs : rk (inp S 141) (16 * y + (x + 1)) = rk (inp S 141) (16 * y + x) + (if inp S 141 (16 * y + x) = true then 1 else 0) := rfl
  unfold LdT
  rw [hs]
  cases hq : inp S 141 (16 * y + x) with
  | true =>
    have hlt := rk_lt (p := inp S 141) (show 16 * y + x < 256 by omega) hq
    simp only [if_true]
    have hn : Int32.toNatClampNeg (S'.1 140 20) = rk (inp S 141) (16 * y + x) := by rw [h1, nJ_ix (by omega)]
    rw [hn]
    refine ⟨?_, fun t ht => ?_, ?_⟩
    · show S'.1 140 20 + 1 = _
      rw [h1, nJ_succ]
    · by_cases hT : t = 16 * y + x
      · subst hT
        refine ⟨fun _ => ⟨?_, ?_, ?_⟩, fun z => by rw [hq] at z; cases z⟩
        · simp [wI_1]
          congr 1
          omega
        · simp [wI_1]
          congr 1
          omega
        · simp [wI_1, h1]
      · obtain ⟨g1, g2⟩ := h2 t (by omega)
        refine ⟨fun z => ?_, fun z => ?_⟩
        · obtain ⟨a1, a2, a3⟩ := g1 z
          have hne : ¬ rk (inp S 141) t = rk (inp S 141) (16 * y + x) := fun q => hT (rk_inj z hq q)
          simp [wI_1, hne, hT, a1, a2, a3]
        · simp [wI_1, hT, g2 z]
    · exact (((h3.tr (Fm_a (by decide))).tr (Fm_a (by decide))).tr (Fm_a (by decide))).tr (Fm_f (by decide))
  | false =>
    simp only [Bool.false_eq_true, if_false]
    refine ⟨by simp [wI_1, h1], fun t ht => ?_, h3.tr (Fm_a (by decide))⟩
    by_cases hT : t = 16 * y + x
    · subst hT
      refine ⟨fun z => (by rw [hq] at z; cases z), fun _ => by simp [wI_1]⟩
    · obtain ⟨g1, g2⟩ := h2 t (by omega)
      refine ⟨fun z => ?_, fun z => by simp [wI_1, hT, g2 z]⟩
      obtain ⟨a1, a2, a3⟩ := g1 z
      simp [wI_1, hT, a1, a2, a3]
theorem LdT_row {S : ST} {y : Nat} (hy : y < 16) (h64 : rk (inp S 141) 256 ≤ 64) {S' : ST} (h : LdT S S' (16 * y)) : LdT S (fr (fun x S => st_214_15 S (nJ y) (nJ x)) 0 16 S') (16 * (y + 1)) := by
  have := fr_inv (f := fun x S => st_214_15 S (nJ y) (nJ x)) (J := fun x S' => LdT S S' (16 * y + x)) (n := 16) (fun x S' hx hJ => LdT_step hx hy h64 hJ) 16 0 S' rfl h
  rw [show 16 * (y + 1) = 16 * y + 16 by omega]
  exact this
theorem LdT_0 (S : ST) : LdT S (wI S 140 20 0) 0 := ⟨rfl, fun t ht => absurd ht (Nat.not_lt_zero t), Fm_f (by decide)⟩
theorem g214_ld {S : ST} (h64 : rk (inp S 141) 256 ≤ 64) : LdT S (g_214 S) 256 :=
  fr_inv (f := fun y S => fr (fun x S => st_214_15 S (nJ y) (nJ x)) 0 16 S) (J := fun y S' => LdT S S' (16 * y)) (n := 16) (fun y S' hy hJ => LdT_row hy h64 hJ) 16 0 (wI S 140 20 0) rfl (LdT_0 S)
def f_215 (S : ST) (v1 : Int32) (v2 : Int32) : Int32 := (if (f_182 v1 0 15) = true then (if (f_182 v2 0 15) = true then ra S 149 ((16 * v2) + v1) else (-1)) else (-1))
-- s4.bits
/-! sets of points as bits of a long; counting them -/
def bz (x : Int64) (i : Nat) : Bool := x.toBitVec.getLsbD i
theorem bz_ext {x y : Int64} (h : ∀ i, i < 64 → bz x i = bz y i) : x = y := Int64.toBitVec_inj.mp (BitVec.eq_of_getLsbD_eq (fun i hi => h i hi))
theorem bz_or (x y : Int64) (i : Nat) : bz (x ||| y) i = (bz x i || bz y i) := by unfold bz; rw [Int64.toBitVec_or, BitVec.getLsbD_or]
theorem bz_and (x y : Int64) (i : Nat) : bz (x &&& y) i = (bz x i && bz y i) := by unfold bz; rw [Int64.toBitVec_and, BitVec.getLsbD_and]
theorem bz_xor (x y : Int64) (i : Nat) : bz (x ^^^ y) i = (bz x i ^^ bz y i) := by unfold bz; rw [Int64.toBitVec_xor, BitVec.getLsbD_xor]
theorem bz_big {x : Int64} {i : Nat} (h : 64 ≤ i) : bz x i = false := BitVec.getLsbD_of_ge _ _ h
theorem bz_m1 : ∀ i, i < 64 → bz (-1) i = true := by decide +kernel
theorem bz_0 (i : Nat) : bz 0 i = false := BitVec.getLsbD_zero
theorem bz_1 : ∀ i, i < 64 → bz 1 i = decide (i = 0) := by decide +kernel
theorem bz_not (x : Int64) {i : Nat} (hi : i < 64) : bz (x ^^^ (-1)) i = !(bz x i) := by rw [bz_xor, bz_m1 i hi]; cases bz x i <;> rfl
theorem shl_1 : ∀ k, k < 64 → ((1 : Int64) <<< ((nJ k).toInt64 &&& 63)).toBitVec = BitVec.twoPow 64 k := by decide +kernel
theorem bz_shl {k : Nat} (hk : k < 64) (i : Nat) : bz ((1 : Int64) <<< (Int32.toInt64 (nJ k) &&& 63)) i = decide (i = k) := by
  unfold bz
  rw [shl_1 k hk, BitVec.getLsbD_twoPow]
  by_cases h : i = k
  · subst h; simp [hk]
  · simp [h]
    exact fun _ e => h e.symm
theorem shr_c : ∀ k, k < 64 → (((nJ k).toInt64 &&& 63).toBitVec.smod 64).toNat = k := by decide +kernel
theorem and_1 (y : Int64) : (y &&& 1) = 1 ↔ bz y 0 = true := by
  constructor
  · intro h
    have := congrArg (fun z => bz z 0) h
    simp only [bz_and, bz_1 0 (by decide)] at this
    simpa using this
  · intro h
    apply bz_ext
    intro i hi
    rw [bz_and, bz_1 i hi]
    by_cases hz : i = 0
    · subst hz; simp [h]
    · simp [hz]
theorem has_t (x : Int64) {k : Nat} (hk : k < 64) : f_217 x (nJ k) = bz x k := by
  unfold f_217
  have e : bz (x >>> (Int32.toInt64 (nJ k) &&& 63)) 0 = bz x k := by
    unfold bz
    rw [Int64.toBitVec_shiftRight]
    show (BitVec.sshiftRight x.toBitVec (((nJ k).toInt64 &&& 63).toBitVec.smod 64).toNat).getLsbD 0 = _
    rw [shr_c k hk, BitVec.getLsbD_sshiftRight]
    simp [hk]
  cases h : bz x k with
  | true => rw [decide_eq_true ((and_1 _).mpr (e.trans h))]
  | false => rw [decide_eq_false (fun q => by rw [(and_1 _).mp q, h] at e; cases e)]
theorem all_c : ∀ P, P < 64 → ∀ i, i < 64 → bz (((1 : Int64) <<< ((nJ P).toInt64 &&& 63)) - 1) i = decide (i < P) := by decide +kernel
theorem all_t {S : ST} {P : Nat} (h : S.1 140 20 = nJ P) (hP : P ≤ 64) {i : Nat} (hi : i < 64) : bz (f_216 S) i = decide (i < P) := by
  unfold f_216
  rw [h]
  by_cases q : P = 64
  · subst q
    rw [if_pos (show nJ 64 = 64 from rfl), bz_m1 i hi, decide_eq_true hi]
  · rw [if_neg (show ¬ nJ P = 64 from fun z => q ((nJ_eq (j := 64) (by omega) (by omega)).mp z))]
    exact all_c P (by omega) i hi
/-- the number of ones -/
def pop : Nat → Nat → Nat
  | 0, _ => 0
  | f + 1, n => n % 2 + pop f (n / 2)
theorem pop_0 : ∀ f, pop f 0 = 0
  | 0 => rfl
  | f + 1 => by
    show 0 % 2 + pop f (0 / 2) = 0
    rw [show 0 / 2 = 0 from rfl, pop_0 f]
theorem pop_le : ∀ f n, pop f n ≤ f
  | 0, _ => Nat.le_refl _
  | f + 1, n => by
    have := pop_le f (n / 2)
    show n % 2 + pop f (n / 2) ≤ f + 1
    omega
theorem pop_pos : ∀ f n, n < 2 ^ f → 0 < n → 0 < pop f n
  | 0, n, h, h' => by simp at h; omega
  | f + 1, n, h, h' => by
    show 0 < n % 2 + pop f (n / 2)
    by_cases q : n % 2 = 0
    · have := pop_pos f (n / 2) (by rw [Nat.pow_succ] at h; omega) (by omega)
      omega
    · omega
theorem pop_dec : ∀ f n, n < 2 ^ f → 0 < n → pop f (n &&& (n - 1)) + 1 = pop f n
  | 0, n, h, h' => by simp at h; omega
  | f + 1, n, h, h' => by
    show (n &&& (n - 1)) % 2 + pop f ((n &&& (n - 1)) / 2) + 1 = n % 2 + pop f (n / 2)
    have hb : (n &&& (n - 1)) % 2 = 0 := by
      have tb : (n &&& (n - 1)).testBit 0 = false := by
        rw [Nat.testBit_and, Nat.testBit_zero, Nat.testBit_zero]
        by_cases q : n % 2 = 1
        · rw [decide_eq_false (show ¬ (n - 1) % 2 = 1 by omega), Bool.and_false]
        · rw [decide_eq_false q, Bool.false_and]
      rw [Nat.testBit_zero] at tb
      have := of_decide_eq_false tb
      omega
    rw [hb, Nat.and_div_two]
    by_cases q : n % 2 = 1
    · have : (n - 1) / 2 = n / 2 := by omega
      rw [this, Nat.and_self]
      omega
    · have : (n - 1) / 2 = n / 2 - 1 := by omega
      rw [this]
      have := pop_dec f (n / 2) (by rw [Nat.pow_succ] at h; omega) (by omega)
      omega
def un (x : Int64) : Nat := x.toBitVec.toNat
theorem un_lt (x : Int64) : un x < 2 ^ 64 := x.toBitVec.isLt
theorem un_0 {x : Int64} : un x = 0 ↔ x = 0 := by
  constructor
  · intro h
    apply Int64.toBitVec_inj.mp
    apply BitVec.eq_of_toNat_eq
    rw [show x.toBitVec.toNat = 0 from h]
    rfl
  · intro h; rw [h]; rfl
theorem un_dec {x : Int64} (h : ¬ x = 0) : un (x &&& (x - 1)) = un x &&& (un x - 1) := by
  have h0 : 0 < un x := Nat.pos_of_ne_zero (fun q => h (un_0.mp q))
  have hl := un_lt x
  unfold un at *
  rw [Int64.toBitVec_and, BitVec.toNat_and]
  congr 1
  rw [Int64.toBitVec_sub, BitVec.toNat_sub]
  show (2 ^ 64 - 1 + x.toBitVec.toNat) % 2 ^ 64 = _
  omega
theorem un_bz (x : Int64) (i : Nat) : (un x).testBit i = bz x i := rfl
theorem ne_bz {x : Int64} (h : ¬ x = 0) : ∃ i, i < 64 ∧ bz x i = true := by
  apply Classical.byContradiction
  intro q
  apply h
  apply bz_ext
  intro i hi
  rw [bz_0]
  cases hb : bz x i with
  | false => rfl
  | true => exact absurd ⟨i, hi, hb⟩ q
def pn (x : Int64) : Nat := pop 64 (un x)
theorem pn_le (x : Int64) : pn x ≤ 64 := pop_le 64 (un x)
theorem pn_0 : pn 0 = 0 := pop_0 64
theorem pn_pos {x : Int64} (h : ¬ x = 0) : 0 < pn x := pop_pos 64 (un x) (un_lt x) (Nat.pos_of_ne_zero (fun z => h (un_0.mp z)))
theorem pn_dec {x : Int64} (h : ¬ x = 0) : pn (x &&& (x - 1)) + 1 = pn x := by
  unfold pn
  rw [un_dec h]
  exact pop_dec 64 (un x) (un_lt x) (Nat.pos_of_ne_zero (fun z => h (un_0.mp z)))
-- s5.count
def f_218 (v0 : Int64) : Int32 := nJ (pn v0)
-- s6.free
theorem bd_le {A B : Int} {x : Int64} (h : bd A x) (hAB : A ≤ B) : bd B x := by unfold bd at *; omega
theorem nJ_dec {k : Nat} (h : 1 ≤ k) : nJ k + (-1) = nJ (k - 1) := by
  have e : nJ k = nJ (k - 1) + 1 := by rw [nJ_succ]; congr 1; omega
  rw [e]
  generalize nJ (k - 1) = x
  apply Int32.toBitVec_inj.mp
  rw [Int32.toBitVec_add, Int32.toBitVec_add]
  show x.toBitVec + 1#32 + (-1#32) = x.toBitVec
  rw [BitVec.add_assoc]
  simp
theorem rl_n (S : ST) (h : Nat) {i : Nat} (hi : i < 2147483648) : rl S h (nJ i) = S.2 h i := by
  show S.2 h (Int32.toNatClampNeg (nJ i)) = _
  rw [nJ_ix hi]
theorem btw_nn {a b r : Int} (h1 : a ≤ r) (h2 : r ≤ b) : (r - a) * (r - b) ≤ 0 := by
  have := Int.mul_nonneg (show 0 ≤ r - a by omega) (show 0 ≤ b - r by omega)
  have e : (r - a) * (b - r) = -((r - a) * (r - b)) := by rw [← Int.mul_neg]; congr 1; omega
  omega
theorem btw_sum {a b u v : Int} (hu : (u - a) * (u - b) ≤ 0) (hv : (v - a) * (v - b) ≤ 0) : (u + v - 2 * a) * (u + v - 2 * b) ≤ 0 := by
  rcases ge_btw hu with ⟨p1, p2⟩ | ⟨p1, p2⟩ <;> rcases ge_btw hv with ⟨q1, q2⟩ | ⟨q1, q2⟩
  · exact btw_nn (by omega) (by omega)
  · have : u + v - 2 * a = 0 := by omega
    rw [this, Int.zero_mul]
    exact Int.le_refl _
  · have : u + v - 2 * a = 0 := by omega
    rw [this, Int.zero_mul]
    exact Int.le_refl _
  · have := btw_nn (a := 2 * b) (b := 2 * a) (r := u + v) (by omega) (by omega)
    rw [Int.mul_comm]
    exact this
/-- the middle of two places on a segment lies on it, at twice the scale -/
theorem on_mid {a b u v : GPt} (hu : ge_on a b u) (hv : ge_on a b v) : ge_on (ge_s 2 a) (ge_s 2 b) (u.1 + v.1, u.2 + v.2) := by
  refine ⟨?_, btw_sum hu.2.1 hv.2.1, btw_sum hu.2.2 hv.2.2⟩
  have e : ge_o (ge_s 2 a) (ge_s 2 b) (u.1 + v.1, u.2 + v.2) = 2 * (ge_o a b u + ge_o a b v) := by unfold ge_o ge_s; grind
  rw [e, hu.1, hv.1]
  rfl
theorem RB_row {S S' : ST} {h : Nat} (e : S'.1 h = S.1 h) (hB : RB S h) : RB S' h := by unfold RB at *; rw [e]; exact hB
theorem one_t : (1 : Int64).toInt = 1 := rfl
theorem sx_1 {S : ST} {h i : Nat} (hB : RB S h) (hi : i < 12) : bd 400000 (Int32.toInt64 (ra S h (3 + nJ i)) * 1) ∧ bd 400000 (Int32.toInt64 (ra S h (15 + nJ i)) * 1) ∧ lP (Int32.toInt64 (ra S h (3 + nJ i)) * 1) (Int32.toInt64 (ra S h (15 + nJ i)) * 1) = rP S h i := by
  have x := sx_t hB hi (m := 1) (by decide) (by decide)
  have y := sy_t hB hi (m := 1) (by decide) (by decide)
  rw [one_t, ge_s_1] at x y
  have b1 := RB_x hB hi
  have b2 := RB_y hB hi
  refine ⟨?_, ?_, Prod.ext x.1 y.1⟩
  · unfold bd; rw [x.1]; omega
  · unfold bd; rw [y.1]; omega
/-- a place of the way -/
def Wp (A B : GPt) (S : ST) (j : Nat) : Prop := ge_on A B (lP (S.2 150 j) (S.2 151 j)) ∧ bd 400000 (S.2 150 j) ∧ bd 400000 (S.2 151 j)
theorem Wp_set {A B : GPt} {S : ST} {x y z : Int64} {j k : Nat} (h : (j = k → ge_on A B (lP x y) ∧ bd 400000 x ∧ bd 400000 y) ∧ (¬ j = k → Wp A B S j)) : Wp A B (wL (wL (wL S 150 k x) 151 k y) 152 k z) j := by
  unfold Wp
  by_cases hj : j = k
  · have := h.1 hj
    simpa [wL_2, hj] using this
  · have := h.2 hj
    unfold Wp at this
    simpa [wL_2, hj] using this
theorem Fm_w {S : ST} {k : Nat} {x y z : Int64} : Fm [150, 151, 152] [] S (wL (wL (wL S 150 k x) 151 k y) 152 k z) := ((Fm_l (by decide)).tr (Fm_l (by decide))).tr (Fm_l (by decide))
/-- what isFree answers -/
def PF (S : ST) (A B : GPt) (v : Option Value) (S' : ST) : Prop := ∃ b : Bool, v = some (.int (b2i b)) ∧ Fm [150, 151, 152] [] S S' ∧ (ge_sees (rL S 141) A B → b = true)
-- s7.sight
/-! the points are laid; who sees whom -/
theorem in_lo {a b c p : GPt} {t : Int} (hF : 0 < ge_o a b c) (h : ge_in a b c p) (ha : t ≤ a.1) (hb : t ≤ b.1) (hc : t ≤ c.1) : t ≤ p.1 := by
  apply Classical.byContradiction
  intro q
  have e := ge_bx a b c p
  have s := ge_b0 a b c p
  have k1 := Int.mul_nonneg h.2.1 (show 0 ≤ a.1 - p.1 - 1 by omega)
  have k2 := Int.mul_nonneg h.2.2 (show 0 ≤ b.1 - p.1 - 1 by omega)
  have k3 := Int.mul_nonneg h.1 (show 0 ≤ c.1 - p.1 - 1 by omega)
  rw [Int.mul_sub] at k1 k2 k3
  omega
theorem in_hi {a b c p : GPt} {t : Int} (hF : 0 < ge_o a b c) (h : ge_in a b c p) (ha : a.1 ≤ t) (hb : b.1 ≤ t) (hc : c.1 ≤ t) : p.1 ≤ t := by
  apply Classical.byContradiction
  intro q
  have e := ge_bx a b c p
  have s := ge_b0 a b c p
  have k1 := Int.mul_nonneg h.2.1 (show 0 ≤ p.1 - a.1 - 1 by omega)
  have k2 := Int.mul_nonneg h.2.2 (show 0 ≤ p.1 - b.1 - 1 by omega)
  have k3 := Int.mul_nonneg h.1 (show 0 ≤ p.1 - c.1 - 1 by omega)
  have f1 : ge_o b c p * (p.1 - a.1 - 1) = -(ge_o b c p * (a.1 - p.1)) - ge_o b c p := by grind
  have f2 : ge_o c a p * (p.1 - b.1 - 1) = -(ge_o c a p * (b.1 - p.1)) - ge_o c a p := by grind
  have f3 : ge_o a b p * (p.1 - c.1 - 1) = -(ge_o a b p * (c.1 - p.1)) - ge_o a b p := by grind
  omega
theorem in_lo2 {a b c p : GPt} {t : Int} (hF : 0 < ge_o a b c) (h : ge_in a b c p) (ha : t ≤ a.2) (hb : t ≤ b.2) (hc : t ≤ c.2) : t ≤ p.2 := by
  apply Classical.byContradiction
  intro q
  have e := ge_by a b c p
  have s := ge_b0 a b c p
  have k1 := Int.mul_nonneg h.2.1 (show 0 ≤ a.2 - p.2 - 1 by omega)
  have k2 := Int.mul_nonneg h.2.2 (show 0 ≤ b.2 - p.2 - 1 by omega)
  have k3 := Int.mul_nonneg h.1 (show 0 ≤ c.2 - p.2 - 1 by omega)
  rw [Int.mul_sub] at k1 k2 k3
  omega
theorem in_hi2 {a b c p : GPt} {t : Int} (hF : 0 < ge_o a b c) (h : ge_in a b c p) (ha : a.2 ≤ t) (hb : b.2 ≤ t) (hc : c.2 ≤ t) : p.2 ≤ t := by
  apply Classical.byContradiction
  intro q
  have e := ge_by a b c p
  have s := ge_b0 a b c p
  have k1 := Int.mul_nonneg h.2.1 (show 0 ≤ p.2 - a.2 - 1 by omega)
  have k2 := Int.mul_nonneg h.2.2 (show 0 ≤ p.2 - b.2 - 1 by omega)
  have k3 := Int.mul_nonneg h.1 (show 0 ≤ p.2 - c.2 - 1 by omega)
  have f1 : ge_o b c p * (p.2 - a.2 - 1) = -(ge_o b c p * (a.2 - p.2)) - ge_o b c p := by grind
  have f2 : ge_o c a p * (p.2 - b.2 - 1) = -(ge_o c a p * (b.2 - p.2)) - ge_o c a p := by grind
  have f3 : ge_o a b p * (p.2 - c.2 - 1) = -(ge_o a b p * (c.2 - p.2)) - ge_o a b p := by grind
  omega
theorem in_box {a b c p : GPt} {t : Int} (hF : 0 < ge_o a b c) (h : ge_in a b c p) (B : ∀ v, v = a ∨ v = b ∨ v = c → 0 ≤ v.1 ∧ v.1 ≤ t ∧ 0 ≤ v.2 ∧ v.2 ≤ t) : 0 ≤ p.1 ∧ p.1 ≤ t ∧ 0 ≤ p.2 ∧ p.2 ≤ t := by
  have A := B a (Or.inl rfl)
  have A2 := B b (Or.inr (Or.inl rfl))
  have A3 := B c (Or.inr (Or.inr rfl))
  exact ⟨in_lo hF h A.1 A2.1 A3.1, in_hi hF h A.2.1 A2.2.1 A3.2.1, in_lo2 hF h A.2.2.1 A2.2.2.1 A3.2.2.1, in_hi2 hF h A.2.2.2 A2.2.2.2 A3.2.2.2⟩
/-- a place of the closed polygon lies in the square of its vertices -/
theorem cl_box {l : List GPt} (h3 : 3 ≤ l.length) (hs : ge_simple l) {t : Int} (B : ∀ v ∈ l, 0 ≤ v.1 ∧ v.1 ≤ t ∧ 0 ≤ v.2 ∧ v.2 ≤ t) {q : GPt} (hq : ge_cl 1 l q) : 0 ≤ q.1 ∧ q.1 ≤ t ∧ 0 ≤ q.2 ∧ q.2 ≤ t := by
  obtain ⟨TS, col, g, -⟩ := ge_cover h3 hs
  obtain ⟨T, hT, tq⟩ := g.2.2.2.1 1 (by decide) q hq
  have tq := ge_tc_1 tq
  obtain ⟨m1, m2, m3, mF⟩ := g.1 T hT
  have s1 := ge_o_swap T.1 T.2.1 T.2.2
  have c1 := ge_o_cyc T.2.1 T.1 T.2.2
  rcases tq with z | z
  · have s := ge_b0 T.1 T.2.1 T.2.2 q
    refine in_box (by have := z.1; have := z.2.1; have := z.2.2; omega) z ?_
    rintro v (rfl | rfl | rfl)
    · exact B _ m1
    · exact B _ m2
    · exact B _ m3
  · have s := ge_b0 T.2.2 T.2.1 T.1 q
    have e : ge_o T.2.2 T.2.1 T.1 ≠ 0 := by
      have : ge_o T.2.2 T.2.1 T.1 = - ge_o T.1 T.2.1 T.2.2 := by unfold ge_o; grind
      omega
    refine in_box (by have := z.1; have := z.2.1; have := z.2.2; omega) z ?_
    rintro v (rfl | rfl | rfl)
    · exact B _ m3
    · exact B _ m2
    · exact B _ m1
/-- a good row: a simple polygon of 3 to 12 vertices in the square, with at most 64 points -/
def GR (S : ST) (h : Nat) : Prop := RW S h ∧ 3 ≤ rN S h ∧ RB S h ∧ ge_simp (rN S h) (rP S h) ∧ rk (inp S h) 256 ≤ 64
def nP (S : ST) : Nat := rk (inp S 141) 256
def pt (S : ST) (p : Nat) : GPt := ((S.1 147 p).toInt, (S.1 148 p).toInt)
/-- the state's points are laid -/
def Ld (S : ST) : Prop := GR S 141 ∧ LdT S S 256
theorem GR_simple {S : ST} {h : Nat} (g : GR S h) : ge_simple (rL S h) ∧ 3 ≤ (rL S h).length ∧ (rL S h).length ≤ 12 := by
  have l : (rL S h).length = rN S h := ge_pl_len _ _
  exact ⟨ge_simple_of g.2.1 g.2.2.2.1, by rw [l]; exact g.2.1, by rw [l]; exact g.1.2⟩
theorem GR_box {S : ST} {h : Nat} (g : GR S h) : ∀ v ∈ rL S h, 0 ≤ v.1 ∧ v.1 ≤ 15 ∧ 0 ≤ v.2 ∧ v.2 ≤ 15 := by
  intro v hv
  obtain ⟨i, hi, rfl⟩ := ge_pl_mem.mp hv
  have h12 := g.1.2
  have a := RB_x g.2.2.1 (i := i) (by omega)
  have b := RB_y g.2.2.1 (i := i) (by omega)
  exact ⟨a.1, a.2, b.1, b.2⟩
def lxy (t : Nat) : GPt := (((t % 16 : Nat) : Int), ((t / 16 : Nat) : Int))
theorem inp_t {S : ST} {h t : Nat} (g : GR S h) (ht : t < 256) : inp S h t = true ↔ ge_cl 1 (rL S h) (lxy t) := by
  have a := li_t (x := t % 16) (by omega)
  have b := li_t (x := t / 16) (by omega)
  have := isIn_t (S := S) (h := h) (m := 1) (x := li (t % 16)) (y := li (t / 16)) g.1 g.2.2.1 (by decide) (by decide) (by unfold bd; rw [a]; omega) (by unfold bd; rw [b]; omega)
  unfold inp
  rw [this, one_t]
  unfold lP
  rw [a, b]
  rfl
theorem Ld_P {S : ST} (h : Ld S) : S.1 140 20 = nJ (nP S) ∧ nP S ≤ 64 := ⟨h.2.1, h.1.2.2.2.2⟩
/-- a point's place -/
theorem Ld_pt {S : ST} (h : Ld S) {p : Nat} (hp : p < nP S) : ∃ t, t < 256 ∧ inp S 141 t = true ∧ rk (inp S 141) t = p ∧ S.1 147 p = nJ (t % 16) ∧ S.1 148 p = nJ (t / 16) ∧ pt S p = lxy t ∧ ge_cl 1 (rL S 141) (pt S p) := by
  obtain ⟨t, h1, h2, h3⟩ := rk_ex _ hp
  obtain ⟨a1, a2, a3⟩ := (h.2.2.1 t h1).1 h2
  rw [h3] at a1 a2
  have e : pt S p = lxy t := by
    unfold pt
    rw [a1, a2, nJ_toInt (by omega), nJ_toInt (by omega)]
    rfl
  exact ⟨t, h1, h2, h3, a1, a2, e, by rw [e]; exact (inp_t h.1 h1).mp h2⟩
/-- each lattice place of the polygon is a point -/
theorem Ld_of {S : ST} (h : Ld S) {q : GPt} (hq : ge_cl 1 (rL S 141) q) : ∃ p, p < nP S ∧ pt S p = q := by
  obtain ⟨g1, g2, g3⟩ := GR_simple h.1
  have b := cl_box g2 g1 (GR_box h.1) hq
  have e : lxy (16 * q.2 + q.1).toNat = q := by
    refine Prod.ext ?_ ?_
    · show (((16 * q.2 + q.1).toNat % 16 : Nat) : Int) = q.1
      omega
    · show (((16 * q.2 + q.1).toNat / 16 : Nat) : Int) = q.2
      omega
  have ht : (16 * q.2 + q.1).toNat < 256 := by omega
  have hin : inp S 141 (16 * q.2 + q.1).toNat = true := (inp_t h.1 ht).mpr (by rw [e]; exact hq)
  refine ⟨rk (inp S 141) (16 * q.2 + q.1).toNat, rk_lt ht hin, ?_⟩
  obtain ⟨a1, a2, a3⟩ := (h.2.2.1 _ ht).1 hin
  unfold pt
  rw [a1, a2, nJ_toInt (by omega), nJ_toInt (by omega)]
  exact e
/-- frames that leave the laid points alone -/
theorem Ld_fm {S S' : ST} {hs fs : List Nat} (h : Ld S) (hF : Fm hs fs S S') (h0 : 140 ∉ hs) (h1 : 141 ∉ hs) (h7 : 147 ∉ hs) (h8 : 148 ∉ hs) (h9 : 149 ∉ hs) (h20 : 20 ∉ fs) : Ld S' ∧ rL S' 141 = rL S 141 ∧ nP S' = nP S ∧ ∀ p, pt S' p = pt S p := by
  have e1 := hF.row h1 (by decide)
  have e7 := hF.row h7 (by decide)
  have e8 := hF.row h8 (by decide)
  have e9 := hF.row h9 (by decide)
  have e20 := hF.fld h0 h20
  have ei := inp_row e1
  have eP : rP S' 141 = rP S 141 := by funext i; unfold rP; rw [e1]
  have eL : rL S' 141 = rL S 141 := by unfold rL; rw [rN_row e1, eP]
  have en : nP S' = nP S := by unfold nP; rw [ei]
  refine ⟨⟨⟨RW_row e1 h.1.1, by rw [rN_row e1]; exact h.1.2.1, RB_row e1 h.1.2.2.1, by rw [rN_row e1, eP]; exact h.1.2.2.2.1, by rw [ei]; exact h.1.2.2.2.2⟩, ?_⟩, eL, en, fun p => by unfold pt; rw [e7, e8]⟩
  refine ⟨by rw [e20, ei]; exact h.2.1, ?_, Fm.rf⟩
  rw [ei, e7, e8, e9]
  exact h.2.2.1
/-- sight: bits below the points' number alone; each point sees itself and all that it must see -/
def Sv (S : ST) : Prop := ∀ p, p < nP S → (∀ q, bz (S.2 153 p) q = true → q < nP S) ∧ bz (S.2 153 p) p = true ∧ ∀ q, q < nP S → ge_sees (rL S 141) (pt S p) (pt S q) → bz (S.2 153 p) q = true
def PS (S : ST) (v : Option Value) (S' : ST) : Prop := v = none ∧ Fm [150, 151, 152, 153, 154] [27, 34, 36] S S' ∧ ((¬ S.1 140 27 = 0 ∧ S' = S) ∨ (S.1 140 27 = 0 ∧ S'.1 140 27 = 1 ∧ S'.1 140 34 = 0 ∧ S'.1 140 36 = 0 ∧ Sv S'))
section Sight
variable {d : Nat} {S : ST}
/-- what holds while the rows of the sight are laid: the pairs (a, b), b < a, a < p or (a = p and b < q), are done -/
def Sj (S S' : ST) (p q : Nat) : Prop := Fm [150, 151, 152, 153, 154] [27, 34, 36] S S' ∧ (S'.1 140 27 = 1 ∧ S'.1 140 34 = 0 ∧ S'.1 140 36 = 0) ∧ (∀ a, a < nP S → (∀ b, bz (S'.2 153 a) b = true → b < nP S) ∧ bz (S'.2 153 a) a = true) ∧ ∀ a b, a < nP S → b < a → (a < p ∨ (a = p ∧ b < q)) → ge_sees (rL S 141) (pt S a) (pt S b) → bz (S'.2 153 a) b = true ∧ bz (S'.2 153 b) a = true
theorem Sj_nx {S' : ST} {p : Nat} (h : Sj S S' p p) : Sj S S' (p + 1) 0 := ⟨h.1, h.2.1, h.2.2.1, fun a b ha hb hc => h.2.2.2 a b ha hb (by omega)⟩
theorem Sj_no {S' : ST} {p q : Nat} (h : Sj S S' p q) (hn : ¬ ge_sees (rL S 141) (pt S p) (pt S q)) : Sj S S' p (q + 1) := ⟨h.1, h.2.1, h.2.2.1, fun a b ha hb hc hs => by
  by_cases z : a = p ∧ b = q
  · obtain ⟨rfl, rfl⟩ := z; exact absurd hs hn
  · exact h.2.2.2 a b ha hb (by omega) hs⟩
theorem bz_orl {x y : Int64} {i : Nat} (h : bz x i = true) : bz (x ||| y) i = true := by rw [bz_or, h, Bool.true_or]
theorem Sj_yes {S' : ST} {p q : Nat} (h : Sj S S' p q) (hp : p < nP S) (hq : q < p) (h64 : nP S ≤ 64) : Sj S (wL (wL S' 153 p (S'.2 153 p ||| (1 <<< (Int32.toInt64 (nJ q) &&& 63)))) 153 q ((wL S' 153 p (S'.2 153 p ||| (1 <<< (Int32.toInt64 (nJ q) &&& 63)))).2 153 q ||| (1 <<< (Int32.toInt64 (nJ p) &&& 63)))) p (q + 1) := by
  have hne : ¬ q = p := by omega
  have e1 : (wL S' 153 p (S'.2 153 p ||| (1 <<< (Int32.toInt64 (nJ q) &&& 63)))).2 153 q = S'.2 153 q := by simp [wL_2, hne]
  rw [e1]
  have val : ∀ a, (wL (wL S' 153 p (S'.2 153 p ||| (1 <<< (Int32.toInt64 (nJ q) &&& 63)))) 153 q (S'.2 153 q ||| (1 <<< (Int32.toInt64 (nJ p) &&& 63)))).2 153 a = if a = q then S'.2 153 q ||| (1 <<< (Int32.toInt64 (nJ p) &&& 63)) else if a = p then S'.2 153 p ||| (1 <<< (Int32.toInt64 (nJ q) &&& 63)) else S'.2 153 a := by
    intro a
    simp [wL_2]
  have up : ∀ a b, bz (S'.2 153 a) b = true → bz ((wL (wL S' 153 p (S'.2 153 p ||| (1 <<< (Int32.toInt64 (nJ q) &&& 63)))) 153 q (S'.2 153 q ||| (1 <<< (Int32.toInt64 (nJ p) &&& 63)))).2 153 a) b = true := by
    intro a b hb
    rw [val]
    split
    · next z => subst z; exact bz_orl hb
    · split
      · next z => subst z; exact bz_orl hb
      · exact hb
  refine ⟨h.1.tr ((Fm_l (by decide)).tr (Fm_l (by decide))), h.2.1, fun a ha => ⟨fun b hb => ?_, up a a (h.2.2.1 a ha).2⟩, fun a b ha hb hc hs => ?_⟩
  · rw [val] at hb
    split at hb
    · rw [bz_or, Bool.or_eq_true] at hb
      rcases hb with hb | hb
      · exact (h.2.2.1 q (by omega)).1 b hb
      · rw [bz_shl (by omega)] at hb
        have : b = p := by simpa using hb
        omega
    · split at hb
      · rw [bz_or, Bool.or_eq_true] at hb
        rcases hb with hb | hb
        · exact (h.2.2.1 p hp).1 b hb
        · rw [bz_shl (by omega)] at hb
          have : b = q := by simpa using hb
          omega
      · exact (h.2.2.1 a ha).1 b hb
  · by_cases z : a = p ∧ b = q
    · obtain ⟨rfl, rfl⟩ := z
      refine ⟨?_, ?_⟩
      · rw [val, if_neg (by omega), if_pos rfl, bz_or, bz_shl (by omega)]
        simp
      · rw [val, if_pos rfl, bz_or, bz_shl (by omega)]
        simp
    · have := h.2.2.2 a b ha hb (by omega) hs
      exact ⟨up a b this.1, up b a this.2⟩
end Sight
-- s8.links
/-! the reference's invariant; what questions may move -/
def rowS (ρ : Nat → Int32) : ST := (fun _ => ρ, fun _ _ => 0)
section Row2
variable {S S' : ST} {h h' : Nat}
theorem ra_r2 (e : S'.1 h' = S.1 h) (v : Int32) : ra S' h' v = ra S h v := by unfold ra; rw [e]
theorem f204_r2 (e : S'.1 h' = S.1 h) (v : Int32) : f_204 S' h' v = f_204 S h v := by unfold f_204; rw [e]
theorem rN_r2 (e : S'.1 h' = S.1 h) : rN S' h' = rN S h := by unfold rN; rw [e]
theorem f206_r2 (e : S'.1 h' = S.1 h) : f_206 S' h' = f_206 S h := by
  funext v1 v2 v4 v6
  unfold f_206
  rw [f204_r2 e, ra_r2 e, ra_r2 e, ra_r2 e, ra_r2 e]
theorem f208_r2 (e : S'.1 h' = S.1 h) : f_208 S' h' = f_208 S h := by
  funext v1 v3 v5
  have e7 : f_207 S' h' = f_207 S h := by
    funext v1 v3 v5
    unfold f_207
    rw [f206_r2 e, rN_r2 e]
  have e8 : st8 S' h' = st8 S h := by
    funext v1 v3 v5 i a
    unfold st8
    rw [f204_r2 e, ra_r2 e, ra_r2 e, ra_r2 e, ra_r2 e]
  unfold f_208
  rw [e7, e8, rN_r2 e]
theorem inp_r2 (e : S'.1 h' = S.1 h) : inp S' h' = inp S h := by
  funext t
  unfold inp
  rw [f208_r2 e]
theorem rL_r2 (e : S'.1 h' = S.1 h) : rL S' h' = rL S h := by
  have eP : rP S' h' = rP S h := by funext i; unfold rP; rw [e]
  unfold rL
  rw [rN_r2 e, eP]
theorem GR_r2 (e : S'.1 h' = S.1 h) (g : GR S h) : GR S' h' := by
  have eP : rP S' h' = rP S h := by funext i; unfold rP; rw [e]
  refine ⟨?_, by rw [rN_r2 e]; exact g.2.1, ?_, by rw [rN_r2 e, eP]; exact g.2.2.2.1, by rw [inp_r2 e]; exact g.2.2.2.2⟩
  · unfold RW; rw [rN_r2 e, e]; exact g.1
  · unfold RB; rw [e]; exact g.2.2.1
end Row2
/-- guards and treasures lie in the polygon -/
def Th (S : ST) (h : Nat) : Prop := (∃ G, S.1 h 1 = nJ G ∧ G ≤ 6 ∧ ∀ g, g < G → ge_cl 1 (rL S h) ((S.1 h (27 + 3 * g)).toInt, (S.1 h (28 + 3 * g)).toInt)) ∧ ∃ T, S.1 h 2 = nJ T ∧ T ≤ 6 ∧ ∀ t, t < T → ge_cl 1 (rL S h) ((S.1 h (45 + 3 * t)).toInt, (S.1 h (46 + 3 * t)).toInt)
def GTh (S : ST) (h : Nat) : Prop := GR S h ∧ Th S h
theorem Th_r2 {S S' : ST} {h h' : Nat} (e : S'.1 h' = S.1 h) (g : Th S h) : Th S' h' := by
  unfold Th
  rw [rL_r2 e, e]
  exact g
theorem GTh_r2 {S S' : ST} {h h' : Nat} (e : S'.1 h' = S.1 h) (g : GTh S h) : GTh S' h' := ⟨GR_r2 e g.1, Th_r2 e g.2⟩
/-- the k-th stored row -/
def sto (S : ST) (k : Nat) : ST := rowS (fun j => S.1 142 (63 * k + j))
def MOK (S : ST) : Prop :=
  (0 ≤ (S.1 140 7).toInt ∧ (S.1 140 7).toInt ≤ 600) ∧ (¬ S.1 140 1 = 0 → Ld S ∧ Th S 141) ∧ (∃ c, S.1 140 4 = nJ c ∧ c ≤ 8 ∧ ∀ k, k < c → GTh (sto S (1 + k)) 0) ∧ (∀ j, j < 2 → ¬ S.1 143 j = 0 → GTh (sto S (9 + j)) 0) ∧ (¬ S.1 140 27 = 0 → Sv S) ∧ (∃ g, S.1 140 34 = nJ g ∧ g ≤ 4) ∧ ∃ w, S.1 140 36 = nJ w ∧ w ≤ 4
def Lq : List Nat := [150, 151, 152, 153, 154, 155, 156, 157, 158, 159, 160, 161]
def Fq : List Nat := [0, 27, 34, 36, 38, 40]
/-- a question: the invariant holds behind it, no more than Lq and Fq has moved -/
def Qq (S S' : ST) : Prop := MOK S' ∧ Fm Lq Fq S S'
theorem Qq.tr {S S1 S2 : ST} (h : Qq S S1) (h' : Qq S1 S2) : Qq S S2 := ⟨h'.1, h.2.tr h'.2⟩
theorem Qq.rf {S : ST} (h : MOK S) : Qq S S := ⟨h, Fm.rf⟩
theorem Sv_fm {S S' : ST} {hs fs : List Nat} (h : Sv S) (hF : Fm hs fs S S') (h1 : 141 ∉ hs) (h7 : 147 ∉ hs) (h8 : 148 ∉ hs) (h3 : 153 ∉ hs) : Sv S' := by
  have e1 := hF.row h1 (by decide)
  have e7 := hF.row h7 (by decide)
  have e8 := hF.row h8 (by decide)
  have e3 := hF.rowL h3
  have en : nP S' = nP S := by unfold nP; rw [inp_r2 e1]
  have ep : ∀ p, pt S' p = pt S p := fun p => by unfold pt; rw [e7, e8]
  unfold Sv
  rw [en, e3, rL_r2 e1]
  intro p hp
  obtain ⟨a, b, c⟩ := h p hp
  exact ⟨a, b, fun q hq => by rw [ep, ep]; exact c q hq⟩
theorem sto_fm {S S' : ST} {hs fs : List Nat} (hF : Fm hs fs S S') (h : 142 ∉ hs) (k : Nat) : sto S' k = sto S k := by
  unfold sto
  rw [hF.row h (by decide)]
theorem MOK_Q {S S' : ST} (h : MOK S) (hF : Fm Lq Fq S S') (hs : ¬ S'.1 140 27 = 0 → Sv S') (hg : ∃ g, S'.1 140 34 = nJ g ∧ g ≤ 4) (hw : ∃ w, S'.1 140 36 = nJ w ∧ w ≤ 4) : MOK S' := by
  obtain ⟨a1, a2, a3, a4, -, -, -⟩ := h
  refine ⟨?_, fun h1 => ?_, ?_, fun j hj hk => ?_, hs, hg, hw⟩
  · rw [hF.fld (by decide) (by decide)]; exact a1
  · rw [hF.fld (by decide) (by decide)] at h1
    exact ⟨(Ld_fm (a2 h1).1 hF (by decide) (by decide) (by decide) (by decide) (by decide) (by decide)).1, Th_r2 (hF.row (by decide) (by decide)) (a2 h1).2⟩
  · obtain ⟨c, c1, c2, c3⟩ := a3
    exact ⟨c, by rw [hF.fld (by decide) (by decide)]; exact c1, c2, fun k hk => by rw [sto_fm hF (by decide)]; exact c3 k hk⟩
  · rw [hF.row (a := 143) (by decide) (by decide)] at hk
    rw [sto_fm hF (by decide)]
    exact a4 j hj hk
/-- a step of a question that leaves the sight alone -/
theorem Qq_0 {S S' : ST} (h : MOK S) {hs fs : List Nat} (hF : Fm hs fs S S') (h1 : ∀ x ∈ hs, x ∈ Lq) (h2 : ∀ x ∈ fs, x ∈ Fq) (h3 : 153 ∉ hs) (h4 : 27 ∉ fs) (h5 : 34 ∉ fs) (h6 : 36 ∉ fs) : Qq S S' := by
  have hF' := hF.wk h1 h2
  have h0 : 140 ∉ hs := fun q => by have := h1 _ q; revert this; decide
  have k1 : 141 ∉ hs := fun q => by have := h1 _ q; revert this; decide
  have k7 : 147 ∉ hs := fun q => by have := h1 _ q; revert this; decide
  have k8 : 148 ∉ hs := fun q => by have := h1 _ q; revert this; decide
  refine ⟨MOK_Q h hF' (fun q => ?_) ?_ ?_, hF'⟩
  · rw [hF.fld h0 h4] at q
    exact Sv_fm (h.2.2.2.2.1 q) hF k1 k7 k8 h3
  · rw [hF.fld h0 h5]; exact h.2.2.2.2.2.1
  · rw [hF.fld h0 h6]; exact h.2.2.2.2.2.2
theorem Qq_t {S : ST} (h : MOK S) (v : Int32) : Qq S (wI S 140 0 v) := Qq_0 h (hs := []) (fs := [0]) (Fm_f (by decide)) (by decide) (by decide) (by decide) (by decide) (by decide) (by decide)
theorem Qq_a {S : ST} (h : MOK S) {a q : Nat} {v : Int32} (h1 : ∀ x ∈ [a], x ∈ Lq) (h3 : 153 ∉ [a]) : Qq S (wI S a q v) := Qq_0 h (hs := [a]) (fs := []) (Fm_a (List.mem_cons_self ..)) h1 (by decide) h3 (by decide) (by decide) (by decide)
/-- with a polygon, seen -/
def Qs (S : ST) : Prop := MOK S ∧ ¬ S.1 140 1 = 0 ∧ Sv S
def Qp (S : ST) : Prop := MOK S ∧ ¬ S.1 140 1 = 0
theorem Qp.ld {S : ST} (h : Qp S) : Ld S ∧ Th S 141 := h.1.2.1 h.2
theorem Qp_q {S S' : ST} (h : Qp S) (q : Qq S S') : Qp S' := ⟨q.1, by rw [q.2.fld (by decide) (by decide)]; exact h.2⟩
theorem Qs_q {S S' : ST} (h : Qs S) (q : Qq S S') (e : S'.2 153 = S.2 153) : Qs S' := by
  refine ⟨q.1, by rw [q.2.fld (by decide) (by decide)]; exact h.2.1, ?_⟩
  have e1 := q.2.row (a := 141) (by decide) (by decide)
  have e7 := q.2.row (a := 147) (by decide) (by decide)
  have e8 := q.2.row (a := 148) (by decide) (by decide)
  have en : nP S' = nP S := by unfold nP; rw [inp_r2 e1]
  have ep : ∀ p, pt S' p = pt S p := fun p => by unfold pt; rw [e7, e8]
  unfold Sv
  rw [en, e, rL_r2 e1]
  intro p hp
  obtain ⟨a, b, c⟩ := h.2.2 p hp
  exact ⟨a, b, fun r hr => by rw [ep, ep]; exact c r hr⟩
theorem rk_up {p q : Nat → Bool} : ∀ {t : Nat}, (∀ i, i < t → p i = true → q i = true) → rk p t ≤ rk q t
  | 0, _ => Nat.le_refl _
  | t + 1, h => by
    have ih := rk_up (t := t) (fun i hi => h i (by omega))
    show rk p t + (if p t = true then 1 else 0) ≤ rk q t + (if q t = true then 1 else 0)
    by_cases z : p t = true
    · rw [if_pos z, if_pos (h t (by omega) z)]; omega
    · rw [if_neg z]; omega
theorem rk_up1 {p q : Nat → Bool} : ∀ {t : Nat}, (∀ i, i < t → p i = true → q i = true) → (∃ j, j < t ∧ q j = true ∧ p j = false) → rk p t < rk q t
  | 0, _, ⟨j, hj, _⟩ => by omega
  | t + 1, h, ⟨j, hj, h1, h2⟩ => by
    show rk p t + (if p t = true then 1 else 0) < rk q t + (if q t = true then 1 else 0)
    by_cases hjt : j = t
    · subst hjt
      have ih := rk_up (t := j) (fun i hi => h i (by omega))
      rw [if_pos h1, if_neg (ne_t h2)]
      omega
    · have ih := rk_up1 (t := t) (fun i hi => h i (by omega)) ⟨j, by omega, h1, h2⟩
      by_cases z : p t = true
      · rw [if_pos z, if_pos (h t (by omega) z)]; omega
      · rw [if_neg z]; omega
theorem or_0 (x : Int64) : x ||| 0 = x := bz_ext (fun i _ => by rw [bz_or, bz_0, Bool.or_false])
/-- what laysLinks leaves -/
def PLk (S : ST) (v : Option Value) (S' : ST) : Prop := ∃ f : Int32, v = some (.int f) ∧ Qq S S' ∧ Qs S' ∧ ∃ p, p < nP S' ∧ S'.1 155 p = f
-- s9.quest
/-! questions: what they answer with, and that they leave the invariant -/
def RQi (S : ST) : RT := RP (fun v S' => (∃ x : Int32, v = some (.int x)) ∧ Qq S S')
def RQl (S : ST) : RT := RP (fun v S' => (∃ x : Int64, v = some (.long x)) ∧ Qq S S')
def RQv (S : ST) : RT := RP (fun v S' => v = none ∧ Qq S S')
theorem np_f {S : ST} (h : decide (S.1 140 1 = 0) = false) : ¬ S.1 140 1 = 0 := of_decide_eq_false h
theorem nb_f {S : ST} {v l : Int32} (h : nb S v l = false) : ¬ S.1 140 1 = 0 ∧ 0 ≤ v.toInt ∧ v.toInt ≤ l.toInt := by
  unfold nb at h
  rw [Bool.or_eq_false_iff, Bool.not_eq_false'] at h
  have := f182_t.mp h.2
  exact ⟨of_decide_eq_false h.1, this.1, this.2⟩
theorem rf_f {t : Int32} {b : Bool} {v : Int32} (h : (!(decide (rf t b v = 0))) = false) (hv : ¬ v = 0) : b = false := by
  rw [Bool.not_eq_false', decide_eq_true_eq] at h
  unfold rf at h
  split at h
  · cases b with
    | false => rfl
    | true => rw [if_pos rfl] at h; exact absurd h hv
  · next q => exact absurd h q
theorem in_f {v l : Int32} (h : (!(f_182 v 0 l)) = false) : 0 ≤ v.toInt ∧ v.toInt ≤ l.toInt := by
  rw [Bool.not_eq_false'] at h
  exact f182_t.mp h
/-- an index below a number -/
theorem ix_of {v : Int32} {n : Nat} (hn : n ≤ 1000) {c : Nat} (hc : 1 ≤ c) (hc2 : c ≤ 1000) (h0 : 0 ≤ v.toInt) (h1 : v.toInt ≤ (nJ n - nJ c).toInt) : ∃ i, v = nJ i ∧ i + c ≤ n := by
  have e : (nJ n - nJ c).toInt = (n : Int) - c := by rw [isub_t (by rw [nJ_toInt (by omega), nJ_toInt (by omega)]; omega) (by rw [nJ_toInt (by omega), nJ_toInt (by omega)]; omega), nJ_toInt (by omega), nJ_toInt (by omega)]
  refine ⟨v.toNatClampNeg, nJ_of h0, ?_⟩
  rw [e] at h1
  show v.toInt.toNat + c ≤ n
  omega
theorem pt_ix {S : ST} (h : Ld S) {v : Int32} (h0 : 0 ≤ v.toInt) (h1 : v.toInt ≤ (S.1 140 20 - 1).toInt) : ∃ p, v = nJ p ∧ p < nP S := by
  obtain ⟨hP, h64⟩ := Ld_P h
  rw [hP] at h1
  obtain ⟨i, a, b⟩ := ix_of (c := 1) (by omega) (by omega) (by omega) h0 h1
  exact ⟨i, a, by omega⟩
theorem vx_ix {S : ST} (h : Ld S) {v : Int32} (h0 : 0 ≤ v.toInt) (h1 : v.toInt ≤ (S.1 141 0 - 1).toInt) : RI S 141 v := by
  have h12 := h.1.1.2
  rw [h.1.1.1] at h1
  obtain ⟨i, a, b⟩ := ix_of (c := 1) (by omega) (by omega) (by omega) h0 h1
  exact ⟨h.1.1, i, a, by omega⟩
theorem gd_ix {S : ST} (h : Th S 141) {v : Int32} (h0 : 0 ≤ v.toInt) (h1 : v.toInt ≤ (S.1 141 1 - 1).toInt) : ∃ G g, S.1 141 1 = nJ G ∧ G ≤ 6 ∧ v = nJ g ∧ g < G ∧ ∀ g, g < G → ge_cl 1 (rL S 141) ((S.1 141 (27 + 3 * g)).toInt, (S.1 141 (28 + 3 * g)).toInt) := by
  obtain ⟨⟨G, g1, g2, g3⟩, -⟩ := h
  rw [g1] at h1
  obtain ⟨i, a, b⟩ := ix_of (c := 1) (by omega) (by omega) (by omega) h0 h1
  exact ⟨G, i, g1, g2, a, by omega, g3⟩
theorem Qp_t {S : ST} (h : MOK S) (hp : ¬ S.1 140 1 = 0) (t : Int32) : Qp (wI S 140 0 t) := ⟨(Qq_t h t).1, hp⟩
theorem Qi_t {S : ST} (h : MOK S) {x t : Int32} : RQi S 0 (.inr (some (.int x))) (wI S 140 0 t) := ⟨rfl, _, rfl, ⟨_, rfl⟩, Qq_t h t⟩
theorem Ql_t {S : ST} (h : MOK S) {x : Int64} {t : Int32} : RQl S 0 (.inr (some (.long x))) (wI S 140 0 t) := ⟨rfl, _, rfl, ⟨_, rfl⟩, Qq_t h t⟩
theorem Qi_q {S S' : ST} (q : Qq S S') {x : Int32} : RQi S 0 (.inr (some (.int x))) S' := ⟨rfl, _, rfl, ⟨_, rfl⟩, q⟩
theorem Ql_q {S S' : ST} (q : Qq S S') {x : Int64} : RQl S 0 (.inr (some (.long x))) S' := ⟨rfl, _, rfl, ⟨_, rfl⟩, q⟩
def f_228 (S : ST) (v1 : Int32) : Int32 := (if (nb S v1 (S.1 141 0 - 1)) = true then 0 else ra S 141 (3 + v1))
def g_228 (S : ST) (v1 : Int32) : ST := (wI S 140 0 (tb S v1 (S.1 141 0 - 1)))
def f_229 (S : ST) (v1 : Int32) : Int32 := (if (nb S v1 (S.1 141 0 - 1)) = true then 0 else ra S 141 (15 + v1))
def g_229 (S : ST) (v1 : Int32) : ST := (wI S 140 0 (tb S v1 (S.1 141 0 - 1)))
def f_230 (S : ST) (v1 : Int32) : Int32 := (if (nb S v1 (S.1 140 20 - 1)) = true then 0 else ra S 147 v1)
def g_230 (S : ST) (v1 : Int32) : ST := (wI S 140 0 (tb S v1 (S.1 140 20 - 1)))
def f_231 (S : ST) (v1 : Int32) : Int32 := (if (nb S v1 (S.1 140 20 - 1)) = true then 0 else ra S 148 v1)
def g_231 (S : ST) (v1 : Int32) : ST := (wI S 140 0 (tb S v1 (S.1 140 20 - 1)))
def f_232 (S : ST) (v1 : Int32) (v2 : Int32) : Int32 := (if (decide (S.1 140 1 = 0)) = true then 0 else f_215 (wI S 140 0 (tz (decide (S.1 140 1 = 0)) 1)) v1 v2)
def g_232 (S : ST) (v1 : Int32) (v2 : Int32) : ST := (wI S 140 0 (tz (decide (S.1 140 1 = 0)) 1))
section Q2
variable {d : Nat} {S : ST}
theorem in_64 {S : ST} (h : Ld S) {v : Int32} (h0 : 0 ≤ v.toInt) (h1 : v.toInt ≤ (S.1 140 20 - 1).toInt) : inB v 64 := by
  obtain ⟨p, rfl, hp⟩ := pt_ix h h0 h1
  have := (Ld_P h).2
  exact nJ_inB (by omega) (by omega)
end Q2
def st33 (S : ST) (i : Nat) (a : Int32) : Int32 := a + (((ra S 141 (3 + nJ i)) * (ra S 141 (15 + (f_204 S 141 (nJ i))))) - ((ra S 141 (3 + (f_204 S 141 (nJ i)))) * (ra S 141 (15 + nJ i))))
def f_233 (S : ST) : Int32 := fr (st33 S) 0 (rN S 141) 0
def f_234 (S : ST) : Int32 := (if (decide (S.1 140 1 = 0)) = true then 0 else (if (f_233 (wI S 140 0 (tz (decide (S.1 140 1 = 0)) 1))) < 0 then -(f_233 (wI S 140 0 (tz (decide (S.1 140 1 = 0)) 1))) else f_233 (wI S 140 0 (tz (decide (S.1 140 1 = 0)) 1))))
def g_234 (S : ST) : ST := (wI S 140 0 (tz (decide (S.1 140 1 = 0)) 1))
def f_235 (S : ST) (v1 : Int32) (v2 : Int32) (v3 : Int32) : Int32 := (if (f_233 S) < 0 then -(f_203 (f_202 (Int32.toInt64 (ra S 141 (3 + v1))) (Int32.toInt64 (ra S 141 (15 + v1))) (Int32.toInt64 (ra S 141 (3 + v2))) (Int32.toInt64 (ra S 141 (15 + v2))) (Int32.toInt64 (ra S 141 (3 + v3))) (Int32.toInt64 (ra S 141 (15 + v3))))) else f_203 (f_202 (Int32.toInt64 (ra S 141 (3 + v1))) (Int32.toInt64 (ra S 141 (15 + v1))) (Int32.toInt64 (ra S 141 (3 + v2))) (Int32.toInt64 (ra S 141 (15 + v2))) (Int32.toInt64 (ra S 141 (3 + v3))) (Int32.toInt64 (ra S 141 (15 + v3)))))
section Q4
variable {d : Nat} {S : ST}
theorem Qq_tt {S : ST} (M : MOK S) (a b : Int32) : Qq S (wI (wI S 140 0 a) 140 0 b) := (Qq_t M a).tr (Qq_t (Qq_t M a).1 b)
theorem nP_q {S S' : ST} (q : Qq S S') : nP S' = nP S := by unfold nP; rw [inp_r2 (q.2.row (a := 141) (by decide) (by decide))]
end Q4
-- t1.turn
/-! the polygon's turn; ears of a ring -/
theorem ap_sum : ∀ l : List GPt, ge_ap l = ((ge_ed l).map (fun e => e.1.1 * e.2.2 - e.2.1 * e.1.2)).sum
  | [] => rfl
  | [_] => rfl
  | a :: b :: r => by
    show (a.1 * b.2 - b.1 * a.2) + ge_ap (b :: r) = (a.1 * b.2 - b.1 * a.2) + ((ge_ed (b :: r)).map (fun e => e.1.1 * e.2.2 - e.2.1 * e.1.2)).sum
    rw [ap_sum (b :: r)]
theorem fr_sum (g : Nat → Int) : ∀ (m i : Nat) (a : Int), fr (fun i a => a + g i) i m a = a + ((List.range' i m).map g).sum := by
  intro m
  induction m with
  | zero => intro i a; show a = a + 0; omega
  | succ m ih =>
    intro i a
    show fr (fun i a => a + g i) (i + 1) m (a + g i) = _
    rw [ih, List.range'_succ, List.map_cons, List.sum_cons]
    omega
def gA3 (S : ST) (i : Nat) : Int := (rP S 141 i).1 * (rP S 141 (ge_aft (rN S 141) i)).2 - (rP S 141 (ge_aft (rN S 141) i)).1 * (rP S 141 i).2
theorem turned_t {S : ST} (hW : RW S 141) (hB : RB S 141) : (f_233 S).toInt = ge_ar (rL S 141) := by
  have h12 := hW.2
  have key : ∀ i, i ≤ rN S 141 → (fr (st33 S) 0 i 0).toInt = fr (fun i a => a + gA3 S i) 0 i 0 ∧ -(225 * (i : Int)) ≤ (fr (st33 S) 0 i 0).toInt ∧ (fr (st33 S) 0 i 0).toInt ≤ 225 * (i : Int) := by
    intro i
    induction i with
    | zero =>
      intro _
      have z : (fr (st33 S) 0 0 0).toInt = 0 := rfl
      exact ⟨rfl, by rw [z]; omega, by rw [z]; omega⟩
    | succ i ih =>
      intro hi
      obtain ⟨a1, a2, a3⟩ := ih (by omega)
      have hj := ge_aft_lt (show i < rN S 141 by omega)
      rw [fr_snoc, fr_snoc, Nat.zero_add]
      generalize fr (st33 S) 0 i 0 = a at *
      unfold st33
      rw [f204_eq hW (by omega), ra_3 S 141 (by omega), ra_15 S 141 (by omega), ra_3 S 141 (by omega), ra_15 S 141 (by omega)]
      have xi := RB_x hB (i := i) (by omega)
      have yi := RB_y hB (i := i) (by omega)
      have xj := RB_x hB (i := ge_aft (rN S 141) i) (by omega)
      have yj := RB_y hB (i := ge_aft (rN S 141) i) (by omega)
      have p1 := Int.mul_nonneg xi.1 yj.1
      have p2 := Int.mul_nonneg xj.1 yi.1
      have m1 := mul_bd (a := (rP S 141 i).1) (b := (rP S 141 (ge_aft (rN S 141) i)).2) (A := 15) (B := 15) (by omega) (by omega) (by omega) (by omega)
      have m2 := mul_bd (a := (rP S 141 (ge_aft (rN S 141) i)).1) (b := (rP S 141 i).2) (A := 15) (B := 15) (by omega) (by omega) (by omega) (by omega)
      have e1 : (S.1 141 (3 + i) * S.1 141 (15 + ge_aft (rN S 141) i)).toInt = (rP S 141 i).1 * (rP S 141 (ge_aft (rN S 141) i)).2 := imul_t (show _ ≤ (rP S 141 i).1 * (rP S 141 (ge_aft (rN S 141) i)).2 by omega) (show (rP S 141 i).1 * (rP S 141 (ge_aft (rN S 141) i)).2 ≤ _ by omega)
      have e2 : (S.1 141 (3 + ge_aft (rN S 141) i) * S.1 141 (15 + i)).toInt = (rP S 141 (ge_aft (rN S 141) i)).1 * (rP S 141 i).2 := imul_t (show _ ≤ (rP S 141 (ge_aft (rN S 141) i)).1 * (rP S 141 i).2 by omega) (show (rP S 141 (ge_aft (rN S 141) i)).1 * (rP S 141 i).2 ≤ _ by omega)
      generalize S.1 141 (3 + i) * S.1 141 (15 + ge_aft (rN S 141) i) = u at *
      generalize S.1 141 (3 + ge_aft (rN S 141) i) * S.1 141 (15 + i) = v at *
      have e3 : (u - v).toInt = u.toInt - v.toInt := isub_t (by omega) (by omega)
      have e4 : (a + (u - v)).toInt = a.toInt + (u.toInt - v.toInt) := by rw [iadd_t (by omega) (by omega), e3]
      have eg : gA3 S i = u.toInt - v.toInt := by unfold gA3; rw [e1, e2]
      rw [e4, ← a1, eg]
      refine ⟨rfl, ?_, ?_⟩
      · have : ((i + 1 : Nat) : Int) = (i : Int) + 1 := by omega
        rw [this]; omega
      · have : ((i + 1 : Nat) : Int) = (i : Int) + 1 := by omega
        rw [this]; omega
  have k := (key (rN S 141) (Nat.le_refl _)).1
  unfold f_233
  rw [k, fr_sum]
  unfold ge_ar
  rw [ap_sum]
  show 0 + _ = ((ge_E (rL S 141)).map _).sum
  unfold rL
  rw [ge_E_pl, List.map_map, ← List.range_eq_range']
  show 0 + ((List.range (rN S 141)).map (gA3 S)).sum = ((List.range (rN S 141)).map _).sum
  rw [Int.zero_add]
  rfl
/-- the polygon's side -/
def sgA (S : ST) : Int := if ge_ar (rL S 141) < 0 then -1 else 1
theorem i32_p (x : Int32) : (0 : Int32) < x ↔ 0 < x.toInt := Int32.lt_iff_toInt_lt
theorem i32_n (x : Int32) : x < 0 ↔ x.toInt < 0 := Int32.lt_iff_toInt_lt
theorem turn_t {S : ST} (hW : RW S 141) (hB : RB S 141) {a b c : Nat} (ha : a < 12) (hb : b < 12) (hc : c < 12) : ((0 : Int32) < f_235 S (nJ a) (nJ b) (nJ c) ↔ 0 < sgA S * ge_o (rP S 141 a) (rP S 141 b) (rP S 141 c)) ∧ (f_235 S (nJ a) (nJ b) (nJ c) < 0 ↔ sgA S * ge_o (rP S 141 a) (rP S 141 b) (rP S 141 c) < 0) := by
  have hcr := cross_t (rx_t hB ha).2 (ry_t hB ha).2 (rx_t hB hb).2 (ry_t hB hb).2 (rx_t hB hc).2 (ry_t hB hc).2
  rw [rP_t hB ha, rP_t hB hb, rP_t hB hc] at hcr
  have hlt : f_233 S < 0 ↔ ge_ar (rL S 141) < 0 := by rw [i32_n, turned_t hW hB]
  unfold f_235 sgA
  generalize f_202 (Int32.toInt64 (ra S 141 (3 + nJ a))) (Int32.toInt64 (ra S 141 (15 + nJ a))) (Int32.toInt64 (ra S 141 (3 + nJ b))) (Int32.toInt64 (ra S 141 (15 + nJ b))) (Int32.toInt64 (ra S 141 (3 + nJ c))) (Int32.toInt64 (ra S 141 (15 + nJ c))) = x at *
  rw [← hcr]
  by_cases h : ge_ar (rL S 141) < 0
  · rw [if_pos (hlt.mpr h), if_pos h]
    rcases f203_3 x with ⟨p, e⟩ | ⟨p, e⟩ | ⟨p, e⟩ <;> rw [e]
    · exact ⟨⟨fun q => absurd q (by decide), fun q => by omega⟩, ⟨fun _ => by omega, fun _ => by decide⟩⟩
    · exact ⟨⟨fun _ => by omega, fun _ => by decide⟩, ⟨fun q => absurd q (by decide), fun q => by omega⟩⟩
    · exact ⟨⟨fun q => absurd q (by decide), fun q => by omega⟩, ⟨fun q => absurd q (by decide), fun q => by omega⟩⟩
  · rw [if_neg (fun q => h (hlt.mp q)), if_neg h]
    rcases f203_3 x with ⟨p, e⟩ | ⟨p, e⟩ | ⟨p, e⟩ <;> rw [e]
    · exact ⟨⟨fun _ => by omega, fun _ => by decide⟩, ⟨fun q => absurd q (by decide), fun q => by omega⟩⟩
    · exact ⟨⟨fun q => absurd q (by decide), fun q => by omega⟩, ⟨fun _ => by omega, fun _ => by decide⟩⟩
    · exact ⟨⟨fun q => absurd q (by decide), fun q => by omega⟩, ⟨fun q => absurd q (by decide), fun q => by omega⟩⟩
/-- the ring without its k-th -/
def rmv (f : Nat → Nat) (k : Nat) : Nat → Nat := fun o => if o < k then f o else f (o + 1)
/-- ear at place k of a ring of n -/
def EarAt (P : Nat → GPt) (σ : Int) (n : Nat) (r : Nat → Nat) (k : Nat) : Prop := 0 < σ * ge_o (P (r ((k + n - 1) % n))) (P (r k)) (P (r ((k + 1) % n))) ∧ ∀ o, o < n → r o ≠ r ((k + n - 1) % n) → r o ≠ r k → r o ≠ r ((k + 1) % n) → ¬ (0 ≤ σ * ge_o (P (r ((k + n - 1) % n))) (P (r k)) (P (r o)) ∧ 0 ≤ σ * ge_o (P (r k)) (P (r ((k + 1) % n))) (P (r o)) ∧ 0 ≤ σ * ge_o (P (r ((k + 1) % n))) (P (r ((k + n - 1) % n))) (P (r o)))
section Ring
variable {α : Type}
def rgS (f : Nat → α) (k : Nat) : List α := (List.range k).map f
def rgR (f : Nat → α) (n k : Nat) : List α := (List.range' (k + 1) (n - 1 - k)).map f
theorem rg_split (f : Nat → α) {n k : Nat} (hk : k < n) : (List.range n).map f = rgS f k ++ f k :: rgR f n k := by
  have e : List.range n = List.range k ++ k :: List.range' (k + 1) (n - 1 - k) := by
    rw [List.range_eq_range', List.range_eq_range']
    have h1 : List.range' 0 n = List.range' 0 k ++ List.range' (0 + 1 * k) (n - k) := by
      rw [List.range'_append]
      congr 1
      omega
    rw [h1, show n - k = (n - 1 - k) + 1 by omega, List.range'_succ]
    simp
  rw [e, List.map_append, List.map_cons]
  rfl
theorem rg_rot (f : Nat → α) {n k : Nat} (hk : k < n) : rgR f n k ++ rgS f k = (List.range (n - 1)).map (fun j => f ((k + 1 + j) % n)) := by
  unfold rgR rgS
  apply List.ext_getElem
  · simp; omega
  · intro i h1 h2
    have hi : i < n - 1 := by simpa using h2
    rw [List.getElem_map, List.getElem_range]
    by_cases q : i < n - 1 - k
    · rw [List.getElem_append_left (by simpa using q)]
      simp only [List.getElem_map, List.getElem_range']
      congr 1
      rw [Nat.mod_eq_of_lt (by omega)]
      omega
    · rw [List.getElem_append_right (by simpa using q)]
      simp only [List.getElem_map, List.getElem_range, List.length_map, List.length_range']
      congr 1
      have : k + 1 + i = (i - (n - 1 - k)) + n := by omega
      rw [this, Nat.add_mod_right, Nat.mod_eq_of_lt (by omega)]
theorem rg_mid (g : Nat → α) (m : Nat) : (List.range (m + 2)).map g = g 0 :: ((List.range' 1 m).map g ++ [g (m + 1)]) := by
  rw [List.range_eq_range', List.range'_succ, List.map_cons, List.range'_concat, List.map_append]
  simp
  rw [Nat.add_comm]
theorem rg_rmv (f : Nat → α) {n k : Nat} (hk : k < n) : rgS f k ++ rgR f n k = (List.range (n - 1)).map (fun o => if o < k then f o else f (o + 1)) := by
  unfold rgR rgS
  apply List.ext_getElem
  · simp; omega
  · intro i h1 h2
    have hi : i < n - 1 := by simpa using h2
    rw [List.getElem_map, List.getElem_range]
    by_cases q : i < k
    · rw [List.getElem_append_left (by simpa using q), if_pos q]
      simp
    · rw [List.getElem_append_right (by simpa using q), if_neg q]
      simp only [List.getElem_map, List.getElem_range', List.length_map, List.length_range]
      congr 1
      omega
end Ring
theorem tc_sg {σ : Int} (hσ : σ = 1 ∨ σ = -1) {a e c w : GPt} (hF : 0 < σ * ge_o a e c) : ge_tc a e c w ↔ (0 ≤ σ * ge_o a e w ∧ 0 ≤ σ * ge_o e c w ∧ 0 ≤ σ * ge_o c a w) := by
  have s1 := ge_b0 a e c w
  have s2 := ge_b0 c e a w
  have w1 := ge_o_swap a e w
  have w2 := ge_o_swap e c w
  have w3 := ge_o_swap c a w
  have w4 : ge_o c e a = - ge_o a e c := by unfold ge_o; grind
  unfold ge_tc ge_in
  rcases hσ with rfl | rfl
  · constructor
    · rintro (⟨x, y, z⟩ | ⟨x, y, z⟩)
      · exact ⟨by omega, by omega, by omega⟩
      · omega
    · rintro ⟨x, y, z⟩
      exact Or.inl ⟨by omega, by omega, by omega⟩
  · constructor
    · rintro (⟨x, y, z⟩ | ⟨x, y, z⟩)
      · omega
      · exact ⟨by omega, by omega, by omega⟩
    · rintro ⟨x, y, z⟩
      exact Or.inr ⟨by omega, by omega, by omega⟩
theorem pl_inj {f : Nat → GPt} {n : Nat} (nd : (ge_pl n f).Nodup) {i j : Nat} (hi : i < n) (hj : j < n) (e : f i = f j) : i = j := by
  apply Classical.byContradiction
  intro q
  rcases Nat.lt_or_gt_of_ne q with q | q
  · refine List.pairwise_iff_getElem.mp nd i j (by rw [ge_pl_len]; exact hi) (by rw [ge_pl_len]; exact hj) q ?_
    unfold ge_pl
    simp [e]
  · refine List.pairwise_iff_getElem.mp nd j i (by rw [ge_pl_len]; exact hj) (by rw [ge_pl_len]; exact hi) q ?_
    unfold ge_pl
    simp [e]
/-- an ear of the list is an ear of the ring, and the other way round -/
theorem ear_iff {P : Nat → GPt} {r : Nat → Nat} {n k : Nat} {σ : Int} (hσ : σ = 1 ∨ σ = -1) (hn : 3 ≤ n) (hk : k < n) (inj : ∀ i j, i < n → j < n → P (r i) = P (r j) → r i = r j) : EarAt P σ n r k ↔ ge_ear (ge_pl n (fun o => P (r o))) σ (rgS (fun o => P (r o)) k) (rgR (fun o => P (r o)) n k) (P (r ((k + n - 1) % n))) (P (r k)) (P (r ((k + 1) % n))) ((List.range' 1 (n - 3)).map (fun j => P (r ((k + 1 + j) % n)))) := by
  have hsp := rg_split (fun o => P (r o)) hk
  have hrot := rg_rot (fun o => P (r o)) hk
  have hmid := rg_mid (fun j => P (r ((k + 1 + j) % n))) (n - 3)
  rw [show n - 3 + 2 = n - 1 by omega] at hmid
  have e1 : (k + 1 + 0) % n = (k + 1) % n := rfl
  have e2 : (k + 1 + (n - 3 + 1)) % n = (k + n - 1) % n := by congr 1; omega
  rw [e1, e2] at hmid
  have ha : (k + n - 1) % n < n := Nat.mod_lt _ (by omega)
  have hc : (k + 1) % n < n := Nat.mod_lt _ (by omega)
  constructor
  · rintro ⟨h1, h2⟩
    refine ⟨hsp, hrot.trans hmid, h1, fun w hw n1 n2 n3 z => ?_⟩
    obtain ⟨o, ho, rfl⟩ := ge_pl_mem.mp hw
    refine h2 o ho (fun q => n1 (by rw [q])) (fun q => n2 (by rw [q])) (fun q => n3 (by rw [q])) ((tc_sg hσ h1).mp z)
  · rintro ⟨-, -, h1, h2⟩
    refine ⟨h1, fun o ho n1 n2 n3 z => ?_⟩
    refine h2 (P (r o)) (ge_pl_mem.mpr ⟨o, ho, rfl⟩) (fun q => n1 (inj o _ ho ha q)) (fun q => n2 (inj o _ ho hk q)) (fun q => n3 (inj o _ ho hc q)) ((tc_sg hσ h1).mpr z)
/-- in a simple ring there is an ear -/
theorem ear_ex {P : Nat → GPt} {r : Nat → Nat} {n : Nat} {σ : Int} (hσ : σ = 1 ∨ σ = -1) (hn : 3 ≤ n) (hs : ge_simple (ge_pl n (fun o => P (r o)))) (ha : 0 < σ * ge_ar (ge_pl n (fun o => P (r o)))) : ∃ k, k < n ∧ EarAt P σ n r k := by
  have inj : ∀ i j, i < n → j < n → P (r i) = P (r j) → r i = r j := fun i j hi hj e => by rw [pl_inj hs.1 hi hj e]
  obtain ⟨σ', hW, ha', s, rr, a, e, c, mid, he⟩ := ge_orient (by rw [ge_pl_len]; exact hn) hs
  have hσ' : σ' = σ := by
    rcases hσ with rfl | rfl <;> rcases hW.1 with rfl | rfl <;> first | rfl | omega
  subst hσ'
  have hlen := congrArg List.length he.1
  rw [ge_pl_len] at hlen
  simp at hlen
  have hk : s.length < n := by omega
  refine ⟨s.length, hk, ?_⟩
  rw [ear_iff hσ hn hk inj]
  have hsp := rg_split (fun o => P (r o)) hk
  have e0 : rgS (fun o => P (r o)) s.length ++ P (r s.length) :: rgR (fun o => P (r o)) n s.length = s ++ e :: rr := hsp.symm.trans he.1
  obtain ⟨e1, e2⟩ := List.append_inj e0 (by unfold rgS; simp)
  obtain ⟨e3, e4⟩ := List.cons.inj e2
  have hrot := rg_rot (fun o => P (r o)) hk
  have hmid := rg_mid (fun j => P (r ((s.length + 1 + j) % n))) (n - 3)
  rw [show n - 3 + 2 = n - 1 by omega] at hmid
  have f1 : (s.length + 1 + 0) % n = (s.length + 1) % n := rfl
  have f2 : (s.length + 1 + (n - 3 + 1)) % n = (s.length + n - 1) % n := by congr 1; omega
  rw [f1, f2] at hmid
  have g0 := hrot.trans hmid
  rw [e1, e4] at g0 ⊢
  have g1 := g0.symm.trans he.2.1
  obtain ⟨g2, g3⟩ := List.cons.inj g1
  obtain ⟨g4, g5⟩ := List.append_inj' g3 rfl
  have g5 := (List.cons.inj g5).1
  rw [e3, g2, g4, g5]
  exact he
/-- an ear cut off: the rest is simple, and turns the same way -/
theorem ear_cut {P : Nat → GPt} {r : Nat → Nat} {n k : Nat} {σ : Int} (hσ : σ = 1 ∨ σ = -1) (hn : 4 ≤ n) (hk : k < n) (hs : ge_simple (ge_pl n (fun o => P (r o)))) (ha : 0 < σ * ge_ar (ge_pl n (fun o => P (r o)))) (he : EarAt P σ n r k) : ge_simple (ge_pl (n - 1) (fun o => P (rmv r k o))) ∧ 0 < σ * ge_ar (ge_pl (n - 1) (fun o => P (rmv r k o))) := by
  have inj : ∀ i j, i < n → j < n → P (r i) = P (r j) → r i = r j := fun i j hi hj e => by rw [pl_inj hs.1 hi hj e]
  have hg := (ear_iff hσ (by omega) hk inj).mp he
  have hm : (List.range' 1 (n - 3)).map (fun j => P (r ((k + 1 + j) % n))) ≠ [] := by
    intro q
    have := congrArg List.length q
    simp at this
    omega
  have hc := ge_cut_ok hs hσ ha hg hm
  have e := rg_rmv (fun o => P (r o)) hk
  have e2 : ge_pl (n - 1) (fun o => P (rmv r k o)) = rgS (fun o => P (r o)) k ++ rgR (fun o => P (r o)) n k := by
    rw [e]
    unfold ge_pl rmv
    apply List.map_congr_left
    intro o _
    split <;> rfl
  rw [e2]
  exact ⟨hc.1, hc.2.1⟩
-- t2.ear
def g_250 (S : ST) (v1 : Int32) (v2 : Int32) (v3 : Int32) (v4 : Int32) : ST := (wI (wI (wI S 157 (Int32.toNatClampNeg (3 * v1)) (if v4 < (if v2 < v3 then v2 else v3) then v4 else (if v2 < v3 then v2 else v3))) 157 (Int32.toNatClampNeg ((3 * v1) + 1)) (if v4 < (if v2 < v3 then v2 else v3) then (if v2 < v3 then v2 else v3) else (if v4 < (if v2 < v3 then v3 else v2) then v4 else (if v2 < v3 then v3 else v2)))) 157 (Int32.toNatClampNeg ((3 * v1) + 2)) (if (if v2 < v3 then v3 else v2) < v4 then v4 else (if v2 < v3 then v3 else v2)))
theorem nJ_mod {a b : Nat} (ha : a < 1000000) (hb : b < 1000000) : nJ a - nJ a / nJ b * nJ b = nJ (a % b) := by
  have e : nJ a / nJ b = nJ (a / b) := (Int32.ofNat_div (by omega) (by omega)).symm
  have h := Nat.div_mul_le_self a b
  rw [e, nJ_mul, nJ_sub h]
  congr 1
  exact Nat.mod_eq_sub_div_mul.symm
theorem nJ_md1 {k n : Nat} (hk : k < 1000) (hn : 1 ≤ n) (hn2 : n < 1000) : ((nJ k + nJ n) - 1) - ((nJ k + nJ n) - 1) / nJ n * nJ n = nJ ((k + n - 1) % n) := by
  rw [nJ_add, show nJ (k + n) - 1 = nJ (k + n - 1) from nJ_sub (j := 1) (by omega), nJ_mod (by omega) (by omega)]
theorem nJ_md2 {k n : Nat} (hk : k < 1000) (hn2 : n < 1000) : (nJ k + 1) - (nJ k + 1) / nJ n * nJ n = nJ ((k + 1) % n) := by
  rw [nJ_succ, nJ_mod (by omega) (by omega)]
/-- the ring's first n places hold r -/
def Rg (S : ST) (n : Nat) (r : Nat → Nat) : Prop := ∀ o, o < n → S.1 156 o = nJ (r o) ∧ r o < rN S 141
section Tri
variable {d : Nat} {S : ST}
/-- the corners are the three, in order -/
theorem g250_t {a b c t : Nat} (ha : a < 12) (hb : b < 12) (hc : c < 12) (ht : t < 10) : Fm [157] [] S (g_250 S (nJ t) (nJ a) (nJ b) (nJ c)) ∧ (∀ j, j < 3 * t → (g_250 S (nJ t) (nJ a) (nJ b) (nJ c)).1 157 j = S.1 157 j) ∧ ∃ x y z, (g_250 S (nJ t) (nJ a) (nJ b) (nJ c)).1 157 (3 * t) = nJ x ∧ (g_250 S (nJ t) (nJ a) (nJ b) (nJ c)).1 157 (3 * t + 1) = nJ y ∧ (g_250 S (nJ t) (nJ a) (nJ b) (nJ c)).1 157 (3 * t + 2) = nJ z ∧ ((x = a ∧ y = b ∧ z = c) ∨ (x = a ∧ y = c ∧ z = b) ∨ (x = b ∧ y = a ∧ z = c) ∨ (x = b ∧ y = c ∧ z = a) ∨ (x = c ∧ y = a ∧ z = b) ∨ (x = c ∧ y = b ∧ z = a)) := by
  have e0 : Int32.toNatClampNeg (3 * nJ t) = 3 * t := by
    show Int32.toNatClampNeg (nJ 3 * nJ t) = _
    rw [nJ_mul, nJ_ix (by omega)]
  have e1 : Int32.toNatClampNeg ((3 * nJ t) + 1) = 3 * t + 1 := by
    show Int32.toNatClampNeg ((nJ 3 * nJ t) + nJ 1) = _
    rw [nJ_mul, nJ_add, nJ_ix (by omega)]
  have e2 : Int32.toNatClampNeg ((3 * nJ t) + 2) = 3 * t + 2 := by
    show Int32.toNatClampNeg ((nJ 3 * nJ t) + nJ 2) = _
    rw [nJ_mul, nJ_add, nJ_ix (by omega)]
  unfold g_250
  rw [e0, e1, e2]
  refine ⟨((Fm_a (by decide)).tr (Fm_a (by decide))).tr (Fm_a (by decide)), fun j hj => ?_, ?_⟩
  · have n0 : ¬ j = 3 * t := by omega
    have n1 : ¬ j = 3 * t + 1 := by omega
    have n2 : ¬ j = 3 * t + 2 := by omega
    simp [wI_1, n0, n1, n2]
  · have L : ∀ {i j : Nat}, i < 12 → j < 12 → (nJ i < nJ j ↔ i < j) := fun hi hj => nJ_lt (by omega) (by omega)
    have q1 : ¬ 3 * t + 1 = 3 * t + 2 := by omega
    have q2 : ¬ 3 * t = 3 * t + 2 := by omega
    have q3 : ¬ 3 * t = 3 * t + 1 := by omega
    by_cases h1 : a < b
    · have c1 : nJ a < nJ b := (L ha hb).mpr h1
      simp only [wI_1, c1, if_true, q1, q2, q3, and_false, and_self, if_false, true_and]
      by_cases h2 : c < a
      · have c2 : nJ c < nJ a := (L hc ha).mpr h2
        have c3 : ¬ nJ b < nJ c := fun z => by have := (L hb hc).mp z; omega
        exact ⟨c, a, b, by simp [c2], by simp [c2], by simp [c3], by simp⟩
      · have c2 : ¬ nJ c < nJ a := fun z => h2 ((L hc ha).mp z)
        by_cases h3 : c < b
        · have c3 : nJ c < nJ b := (L hc hb).mpr h3
          have c4 : ¬ nJ b < nJ c := fun z => by have := (L hb hc).mp z; omega
          exact ⟨a, c, b, by simp [c2], by simp [c2, c3], by simp [c4], by simp⟩
        · have c3 : ¬ nJ c < nJ b := fun z => h3 ((L hc hb).mp z)
          by_cases h4 : b < c
          · have c4 : nJ b < nJ c := (L hb hc).mpr h4
            exact ⟨a, b, c, by simp [c2], by simp [c2, c3], by simp [c4], by simp⟩
          · have c4 : ¬ nJ b < nJ c := fun z => h4 ((L hb hc).mp z)
            have : b = c := by omega
            exact ⟨a, b, c, by simp [c2], by simp [c2, c3], by simp [c4, this], by simp⟩
    · have c1 : ¬ nJ a < nJ b := fun z => h1 ((L ha hb).mp z)
      simp only [wI_1, c1, if_false, q1, q2, q3, and_false, and_self, if_true, true_and]
      by_cases h2 : c < b
      · have c2 : nJ c < nJ b := (L hc hb).mpr h2
        have c3 : ¬ nJ a < nJ c := fun z => by have := (L ha hc).mp z; omega
        exact ⟨c, b, a, by simp [c2], by simp [c2], by simp [c3], by simp⟩
      · have c2 : ¬ nJ c < nJ b := fun z => h2 ((L hc hb).mp z)
        by_cases h3 : c < a
        · have c3 : nJ c < nJ a := (L hc ha).mpr h3
          have c4 : ¬ nJ a < nJ c := fun z => by have := (L ha hc).mp z; omega
          exact ⟨b, c, a, by simp [c2], by simp [c2, c3], by simp [c4], by simp⟩
        · have c3 : ¬ nJ c < nJ a := fun z => h3 ((L hc ha).mp z)
          by_cases h4 : a < c
          · have c4 : nJ a < nJ c := (L ha hc).mpr h4
            exact ⟨b, a, c, by simp [c2], by simp [c2, c3], by simp [c4], by simp⟩
          · have c4 : ¬ nJ a < nJ c := fun z => h4 ((L ha hc).mp z)
            have : a = c := by omega
            exact ⟨b, a, c, by simp [c2], by simp [c2, c3], by simp [c4, this], by simp⟩
end Tri
-- t3.tri
/-! the triangles, and a colouring of them -/
def third (x y : Nat) : Nat := 3 - x - y
theorem third_ok {x y : Nat} (hx : x < 3) (hy : y < 3) (h : x ≠ y) : third x y < 3 ∧ third x y ≠ x ∧ third x y ≠ y := by unfold third; omega
/-- a ring's place behind one that is left out -/
theorem rmv_at {r : Nat → Nat} {n k o : Nat} (hk : k < n) (ho : o < n) (hne : o ≠ k) : ∃ o', o' < n - 1 ∧ rmv r k o' = r o ∧ (o < k → o' = o) ∧ (k < o → o' = o - 1) := by
  by_cases q : o < k
  · exact ⟨o, by omega, by unfold rmv; rw [if_pos q], fun _ => rfl, fun z => by omega⟩
  · refine ⟨o - 1, by omega, ?_, fun z => by omega, fun _ => rfl⟩
    unfold rmv
    rw [if_neg (by omega), show o - 1 + 1 = o by omega]
theorem rmv_in {r : Nat → Nat} {n k o : Nat} (hk : k < n) (ho : o < n - 1) : ∃ o', o' < n ∧ o' ≠ k ∧ rmv r k o = r o' := by
  unfold rmv
  split
  · exact ⟨o, by omega, by omega, rfl⟩
  · exact ⟨o + 1, by omega, by omega, rfl⟩
/-- the colours of the ring without an ear give colours of the ring -/
theorem col_step {r : Nat → Nat} {n k : Nat} (hn : 4 ≤ n) (hk : k < n) (inj : ∀ i j, i < n → j < n → r i = r j → i = j) {col' : Nat → Nat} (h3 : ∀ v, col' v < 3) (hp : ∀ o, o < n - 1 → col' (rmv r k o) ≠ col' (rmv r k ((o + 1) % (n - 1)))) : ∃ col : Nat → Nat, (∀ v, col v < 3) ∧ (∀ v, v ≠ r k → col v = col' v) ∧ (∀ o, o < n → col (r o) ≠ col (r ((o + 1) % n))) ∧ col (r ((k + n - 1) % n)) ≠ col (r ((k + 1) % n)) := by
  -- the neighbours of the ear follow each other in the rest
  have hac : col' (r ((k + n - 1) % n)) ≠ col' (r ((k + 1) % n)) := by
    by_cases k0 : k = 0
    · have := hp (n - 2) (by omega)
      rw [show n - 2 + 1 = n - 1 by omega, Nat.mod_self] at this
      have e1 : rmv r k (n - 2) = r ((k + n - 1) % n) := by
        unfold rmv
        rw [if_neg (by omega), Nat.mod_eq_of_lt (by omega)]
        congr 1
        omega
      have e2 : rmv r k 0 = r ((k + 1) % n) := by
        unfold rmv
        rw [if_neg (by omega), Nat.mod_eq_of_lt (by omega)]
        congr 1
        omega
      rw [e1, e2] at this
      exact this
    · have := hp (k - 1) (by omega)
      have e1 : rmv r k (k - 1) = r ((k + n - 1) % n) := by
        unfold rmv
        rw [if_pos (by omega)]
        congr 1
        rw [show k + n - 1 = k - 1 + n by omega, Nat.add_mod_right, Nat.mod_eq_of_lt (by omega)]
      have e2 : rmv r k ((k - 1 + 1) % (n - 1)) = r ((k + 1) % n) := by
        rw [show k - 1 + 1 = k by omega]
        by_cases kl : k = n - 1
        · have : k % (n - 1) = 0 := by rw [kl, Nat.mod_self]
          rw [this, show k + 1 = n by omega, Nat.mod_self]
          unfold rmv
          rw [if_pos (by omega)]
        · rw [Nat.mod_eq_of_lt (by omega), Nat.mod_eq_of_lt (by omega)]
          unfold rmv
          rw [if_neg (by omega)]
      rw [e1, e2] at this
      exact this
  obtain ⟨t1, t2, t3⟩ := third_ok (h3 _) (h3 _) hac
  have hA : (k + n - 1) % n < n := Nat.mod_lt _ (by omega)
  have hC : (k + 1) % n < n := Nat.mod_lt _ (by omega)
  have nA : (k + n - 1) % n ≠ k := by
    by_cases k0 : k = 0
    · rw [Nat.mod_eq_of_lt (by omega)]; omega
    · rw [show k + n - 1 = k - 1 + n by omega, Nat.add_mod_right, Nat.mod_eq_of_lt (by omega)]; omega
  have nC : (k + 1) % n ≠ k := by
    by_cases kl : k + 1 = n
    · rw [kl, Nat.mod_self]; omega
    · rw [Nat.mod_eq_of_lt (by omega)]; omega
  have rA : r ((k + n - 1) % n) ≠ r k := fun q => nA (inj _ _ hA hk q)
  have rC : r ((k + 1) % n) ≠ r k := fun q => nC (inj _ _ hC hk q)
  refine ⟨fun v => if v = r k then third (col' (r ((k + n - 1) % n))) (col' (r ((k + 1) % n))) else col' v, fun v => ?_, fun v hv => if_neg hv, fun o ho => ?_, ?_⟩
  · show (if v = r k then _ else _) < 3
    split
    · exact t1
    · exact h3 v
  · show (if r o = r k then _ else _) ≠ (if r ((o + 1) % n) = r k then _ else _)
    by_cases ok : o = k
    · subst ok
      rw [if_pos rfl, if_neg rC]
      exact t3
    · have ro : r o ≠ r k := fun q => ok (inj _ _ ho hk q)
      rw [if_neg ro]
      have hP : (o + 1) % n < n := Nat.mod_lt _ (by omega)
      by_cases pk : (o + 1) % n = k
      · rw [pk, if_pos rfl]
        have : o = (k + n - 1) % n := by
          by_cases ol : o + 1 = n
          · rw [ol, Nat.mod_self] at pk
            subst pk
            rw [Nat.mod_eq_of_lt (by omega)]; omega
          · rw [Nat.mod_eq_of_lt (by omega)] at pk
            rw [show k + n - 1 = k - 1 + n by omega, Nat.add_mod_right, Nat.mod_eq_of_lt (by omega)]; omega
        rw [this]
        exact fun q => t2 q.symm
      · have rp : r ((o + 1) % n) ≠ r k := fun q => pk (inj _ _ hP hk q)
        rw [if_neg rp]
        obtain ⟨o', a1, a2, a3, a4⟩ := rmv_at (r := r) hk ho ok
        obtain ⟨p', b1, b2, b3, b4⟩ := rmv_at (r := r) hk hP pk
        have := hp o' a1
        have e : (o' + 1) % (n - 1) = p' := by
          by_cases ol : o + 1 = n
          · rw [ol, Nat.mod_self] at pk b3
            have ha := a4 (by omega)
            have hb := b3 (by omega)
            rw [hb, ha, show o - 1 + 1 = n - 1 by omega, Nat.mod_self]
          · rw [Nat.mod_eq_of_lt (show o + 1 < n by omega)] at pk b3 b4
            by_cases q : o < k
            · rw [a3 q, b3 (by omega), Nat.mod_eq_of_lt (by omega)]
            · rw [a4 (by omega), b4 (by omega), Nat.mod_eq_of_lt (by omega)]; omega
        rw [e, a2, b2] at this
        exact this
  · show (if _ = r k then _ else _) ≠ (if _ = r k then _ else _)
    rw [if_neg rA, if_neg rC]
    exact hac
/-- what the triangles from the (N - n)-th on are -/
def TP (S : ST) (n : Nat) (r : Nat → Nat) (S1 : ST) (v : Option Value) (S' : ST) : Prop := v = none ∧ Fm [156, 157] [] S1 S' ∧ (∀ j, j < 3 * (rN S 141 - n) → S'.1 157 j = S1.1 157 j) ∧ ∃ col : Nat → Nat, (∀ v, col v < 3) ∧ (∀ o, o < n → col (r o) ≠ col (r ((o + 1) % n))) ∧ ∀ u, rN S 141 - n ≤ u → u < rN S 141 - 2 → ∃ x y z, S'.1 157 (3 * u) = nJ x ∧ S'.1 157 (3 * u + 1) = nJ y ∧ S'.1 157 (3 * u + 2) = nJ z ∧ (∃ o, o < n ∧ x = r o) ∧ (∃ o, o < n ∧ y = r o) ∧ (∃ o, o < n ∧ z = r o) ∧ col x ≠ col y ∧ col y ≠ col z ∧ col z ≠ col x
-- t4.col
/-- the triangles are laid, and can be coloured -/
def Tr (S S' : ST) (v : Option Value) : Prop := v = none ∧ Fm [156, 157] [] S S' ∧ ∃ col : Nat → Nat, (∀ v, col v < 3) ∧ col 0 = 0 ∧ col 1 = 1 ∧ ∀ u, u < rN S 141 - 2 → ∃ x y z, S'.1 157 (3 * u) = nJ x ∧ S'.1 157 (3 * u + 1) = nJ y ∧ S'.1 157 (3 * u + 2) = nJ z ∧ (x < rN S 141 ∧ y < rN S 141 ∧ z < rN S 141) ∧ col x ≠ col y ∧ col y ≠ col z ∧ col z ≠ col x
section Tri
variable {d : Nat} {S : ST}
theorem Tr_q (M : MOK S) {S' : ST} {v : Option Value} (h : Tr S S' v) : Qq S S' := Qq_0 M h.2.1 (by decide) (by decide) (by decide) (by decide) (by decide) (by decide)
theorem tri_ix (h : Ld S) {v : Int32} (h0 : 0 ≤ v.toInt) (h1 : v.toInt ≤ (S.1 141 0 - 3).toInt) : ∃ t, v = nJ t ∧ t < rN S 141 - 2 := by
  have h12 := h.1.1.2
  have h3 := h.1.2.1
  rw [h.1.1.1] at h1
  obtain ⟨i, a, b⟩ := ix_of (c := 3) (by omega) (by omega) (by omega) h0 h1
  exact ⟨i, a, by omega⟩
theorem ix3 {t k : Nat} (ht : t < 10) (hk : k < 3) : (3 * nJ t) + nJ k = nJ (3 * t + k) := by
  show (nJ 3 * nJ t) + nJ k = _
  rw [nJ_mul, nJ_add]
theorem nJ_m1 {c : Nat} (hc : c < 2147483648) : ¬ nJ c = -1 := by
  intro q
  have := congrArg Int32.toInt q
  rw [nJ_toInt hc] at this
  have : (c : Int) = -1 := this
  omega
/-- no colour yet -/
def unc (S : ST) (v : Nat) : Bool := decide (S.1 158 v = -1)
/-- while the colours are laid -/
def CJ (col : Nat → Nat) (S S1 S' : ST) : Prop := Fm [158] [] S1 S' ∧ ∀ v, v < rN S 141 → S'.1 158 v = nJ (col v) ∨ S'.1 158 v = -1
def f_257 (S : ST) (v1 : Int32) : Int32 := fr (fun i a => a ||| (if (ra S 158 (nJ i)) = v1 then 1 <<< (nJ i &&& 31) else 0)) 0 (rN S 141) 0
end Tri
