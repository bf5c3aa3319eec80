def xC (inp par pla dra lat his f1 f2 : Nat) (hd ec ea : Int32) (g : Nat → Value) : List Value := [.ref inp, .ref par, .ref pla, .ref dra, .ref lat, g 5, g 6, g 7, g 8, g 9, g 10, .ref his, .ref f1, .ref f2, g 14, .int hd, .int ec, .int ea]
def pC (v gu t : Int32) (g : Nat → Value) : List Value := [.int v, .int gu, .int t, g 3, g 4, g 5, g 6, g 7, g 8, g 9, g 10]
def mC (th bu pe ep sz nx fr so wr wa : Int32) (as ak ab ar : Nat) (g : Nat → Value) : List Value := [.int th, .int 0, .ref as, g 3, .int 0, .ref ak, .ref ab, .int bu, .int pe, .int ep, .int sz, .int nx, .int fr, .int so, g 14, g 15, g 16, .int wr, .int wa, .ref ar, .int 0, g 21, g 22, g 23, g 24, g 25, g 26, g 27, g 28, g 29, g 30, g 31, g 32, g 33, g 34, g 35, g 36, g 37, g 38, g 39, .int 0]

theorem w_0 : Cond.laysFinal RX11 "GalleryGuards" "input" "LGalleryGuards$Input;" ∈ Big := big_t 335 (by decide +kernel) rfl
theorem w_1 : Cond.laysFinal RX11 "GalleryGuards" "parse\x72" "LGalleryGuards$Parser;" ∈ Big := big_t 337 (by decide +kernel) rfl
theorem w_2 : Cond.laysFinal RX11 "GalleryGuards" "plan" "LGalleryGuards$Plan;" ∈ Big := big_t 339 (by decide +kernel) rfl
theorem w_3 : Cond.laysFinal RX11 "GalleryGuards" "draft" "LGalleryGuards$Plan;" ∈ Big := big_t 341 (by decide +kernel) rfl
theorem w_4 : Cond.laysFinal RX11 "GalleryGuards" "lattice" "LGalleryGuards$Lattice;" ∈ Big := big_t 343 (by decide +kernel) rfl
theorem w_5 : Cond.laysFinal RX11 "GalleryGuards" "draftLattice" "LGalleryGuards$Lattice;" ∈ Big := big_t 345 (by decide +kernel) rfl
theorem w_6 : Cond.laysFinal RX11 "GalleryGuards" "sight" "LGalleryGuards$Sight;" ∈ Big := big_t 347 (by decide +kernel) rfl
theorem w_7 : Cond.laysFinal RX11 "GalleryGuards" "triangulation" "LGalleryGuards$Triangulation;" ∈ Big := big_t 349 (by decide +kernel) rfl
theorem w_8 : Cond.laysFinal RX11 "GalleryGuards" "covers" "LGalleryGuards$CoverSearch;" ∈ Big := big_t 351 (by decide +kernel) rfl
theorem w_9 : Cond.laysFinal RX11 "GalleryGuards" "spreads" "LGalleryGuards$SpreadSearch;" ∈ Big := big_t 353 (by decide +kernel) rfl
theorem w_10 : Cond.laysFinal RX11 "GalleryGuards" "watch" "LGalleryGuards$Watch;" ∈ Big := big_t 355 (by decide +kernel) rfl
theorem w_11 : Cond.laysFinal RX11 "GalleryGuards" "history" "LGalleryGuards$History;" ∈ Big := big_t 357 (by decide +kernel) rfl
theorem w_12 : Cond.laysFinal RX11 "GalleryGuards" "firstSaved" "LGalleryGuards$Plan;" ∈ Big := big_t 359 (by decide +kernel) rfl
theorem w_13 : Cond.laysFinal RX11 "GalleryGuards" "secondSaved" "LGalleryGuards$Plan;" ∈ Big := big_t 361 (by decide +kernel) rfl
theorem w_14 : Cond.laysFinal RX11 "GalleryGuards" "drawn" "[I" ∈ Big := big_t 363 (by decide +kernel) rfl
theorem w_15 : Cond.lays RX11 "GalleryGuards" "hasDrawn" "Z" ∈ Big := big_t 365 (by decide +kernel) rfl
theorem w_16 : Cond.lays RX11 "GalleryGuards" "errorCode" "I" ∈ Big := big_t 367 (by decide +kernel) rfl
theorem w_17 : Cond.lays RX11 "GalleryGuards" "errorAt" "I" ∈ Big := big_t 369 (by decide +kernel) rfl
theorem w_18 : Cond.fieldLink RX11 19 "GalleryGuards" "plan" "LGalleryGuards$Plan;" ∈ Big := big_t 319 (by decide +kernel) rfl
theorem w_19 : Cond.lays RX6 "GalleryGuards$Plan" "vertexCount" "I" ∈ Big := big_t 99 (by decide +kernel) rfl
theorem w_20 : Cond.lays RX6 "GalleryGuards$Plan" "guardCount" "I" ∈ Big := big_t 101 (by decide +kernel) rfl
theorem w_21 : Cond.lays RX6 "GalleryGuards$Plan" "treasureCount" "I" ∈ Big := big_t 103 (by decide +kernel) rfl
theorem w_22 : Cond.laysFinal RX6 "GalleryGuards$Plan" "vertexXs" "[I" ∈ Big := big_t 105 (by decide +kernel) rfl
theorem w_23 : Cond.laysFinal RX6 "GalleryGuards$Plan" "vertexYs" "[I" ∈ Big := big_t 107 (by decide +kernel) rfl
theorem w_24 : Cond.laysFinal RX6 "GalleryGuards$Plan" "guardXs" "[I" ∈ Big := big_t 109 (by decide +kernel) rfl
theorem w_25 : Cond.laysFinal RX6 "GalleryGuards$Plan" "guardYs" "[I" ∈ Big := big_t 111 (by decide +kernel) rfl
theorem w_26 : Cond.laysFinal RX6 "GalleryGuards$Plan" "guardReaches" "[I" ∈ Big := big_t 113 (by decide +kernel) rfl
theorem w_27 : Cond.laysFinal RX6 "GalleryGuards$Plan" "treasureXs" "[I" ∈ Big := big_t 115 (by decide +kernel) rfl
theorem w_28 : Cond.laysFinal RX6 "GalleryGuards$Plan" "treasureYs" "[I" ∈ Big := big_t 117 (by decide +kernel) rfl
theorem w_29 : Cond.laysFinal RX6 "GalleryGuards$Plan" "treasureValues" "[I" ∈ Big := big_t 119 (by decide +kernel) rfl
theorem w_30 : Cond.fieldLink RX11 152 "GalleryGuards$Plan" "vertexCount" "I" ∈ Big := big_t 79 (by decide +kernel) rfl
theorem w_31 : Cond.classLink RX11 311 "java/lang/IllegalStateException" ∈ Big := big_t 721 (by decide +kernel) rfl
theorem w_32 : Cond.initialized "java/lang/IllegalStateException" ∈ Big := big_t 25 (by decide +kernel) rfl
theorem w_33 : Cond.methodLink RX11 155 yX11_needPolygon ∈ Big := big_t 717 (by decide +kernel) rfl
theorem w_34 : Cond.instanceMethod yX11_needPolygon ∈ Big := big_t 719 (by decide +kernel) rfl
theorem w_35 : Cond.selects RX11 yX11_needPolygon yX11_needPolygon ∈ Big := big_s 10 (y := yX11_needPolygon) (k := 18) (by decide +kernel)
theorem w_36 : Cond.initialized RX11 ∈ Big := big_t 1 (by decide +kernel) rfl
theorem w_37 : Cond.code yX11_needPolygon cX11_needPolygon 1 none ∈ Big := big_t 720 (by decide +kernel) rfl
theorem w_38 : Cond.methodLink RL 17 yX11_vertexX ∈ Big := big_t 713 (by decide +kernel) rfl
theorem w_39 : Cond.instanceMethod yX11_vertexX ∈ Big := big_t 714 (by decide +kernel) rfl
theorem w_40 : Cond.selects RX11 yX11_vertexX yX11_vertexX ∈ Big := big_t 715 (by decide +kernel) rfl
theorem w_41 : Cond.code yX11_vertexX cX11_vertexX 2 (some .int) ∈ Big := big_t 716 (by decide +kernel) rfl
theorem w_42 : Cond.classLink RL 20 "java/lang/IllegalStateException" ∈ Big := big_t 712 (by decide +kernel) rfl
theorem w_43 : Cond.methodLink RL 22 yX11_vertexY ∈ Big := big_t 745 (by decide +kernel) rfl
theorem w_44 : Cond.instanceMethod yX11_vertexY ∈ Big := big_t 746 (by decide +kernel) rfl
theorem w_45 : Cond.selects RX11 yX11_vertexY yX11_vertexY ∈ Big := big_t 747 (by decide +kernel) rfl
theorem w_46 : Cond.code yX11_vertexY cX11_vertexY 2 (some .int) ∈ Big := big_t 748 (by decide +kernel) rfl
theorem w_47 : Cond.methodLink RL 25 yX11_doubleArea ∈ Big := big_t 753 (by decide +kernel) rfl
theorem w_48 : Cond.instanceMethod yX11_doubleArea ∈ Big := big_t 754 (by decide +kernel) rfl
theorem w_49 : Cond.selects RX11 yX11_doubleArea yX11_doubleArea ∈ Big := big_t 755 (by decide +kernel) rfl
theorem w_50 : Cond.code yX11_doubleArea cX11_doubleArea 1 (some .int) ∈ Big := big_t 756 (by decide +kernel) rfl
theorem w_51 : Cond.methodLink RL 29 yX11_reflexVertices ∈ Big := big_t 766 (by decide +kernel) rfl
theorem w_52 : Cond.instanceMethod yX11_reflexVertices ∈ Big := big_t 767 (by decide +kernel) rfl
theorem w_53 : Cond.selects RX11 yX11_reflexVertices yX11_reflexVertices ∈ Big := big_t 768 (by decide +kernel) rfl
theorem w_54 : Cond.code yX11_reflexVertices cX11_reflexVertices 1 (some .int) ∈ Big := big_t 769 (by decide +kernel) rfl
theorem w_55 : Cond.methodLink RL 32 yX11_pointX ∈ Big := big_t 784 (by decide +kernel) rfl
theorem w_56 : Cond.instanceMethod yX11_pointX ∈ Big := big_t 785 (by decide +kernel) rfl
theorem w_57 : Cond.selects RX11 yX11_pointX yX11_pointX ∈ Big := big_t 786 (by decide +kernel) rfl
theorem w_58 : Cond.code yX11_pointX cX11_pointX 2 (some .int) ∈ Big := big_t 787 (by decide +kernel) rfl
theorem w_59 : Cond.methodLink RL 35 yX11_pointY ∈ Big := big_t 795 (by decide +kernel) rfl
theorem w_60 : Cond.instanceMethod yX11_pointY ∈ Big := big_t 796 (by decide +kernel) rfl
theorem w_61 : Cond.selects RX11 yX11_pointY yX11_pointY ∈ Big := big_t 797 (by decide +kernel) rfl
theorem w_62 : Cond.code yX11_pointY cX11_pointY 2 (some .int) ∈ Big := big_t 798 (by decide +kernel) rfl
theorem w_63 : Cond.methodLink RL 38 yX11_pointAt ∈ Big := big_t 806 (by decide +kernel) rfl
theorem w_64 : Cond.instanceMethod yX11_pointAt ∈ Big := big_t 807 (by decide +kernel) rfl
theorem w_65 : Cond.selects RX11 yX11_pointAt yX11_pointAt ∈ Big := big_t 808 (by decide +kernel) rfl
theorem w_66 : Cond.code yX11_pointAt cX11_pointAt 3 (some .int) ∈ Big := big_t 809 (by decide +kernel) rfl
theorem w_67 : Cond.methodLink RL 42 yX11_boundary ∈ Big := big_t 814 (by decide +kernel) rfl
theorem w_68 : Cond.instanceMethod yX11_boundary ∈ Big := big_t 815 (by decide +kernel) rfl
theorem w_69 : Cond.selects RX11 yX11_boundary yX11_boundary ∈ Big := big_t 816 (by decide +kernel) rfl
theorem w_70 : Cond.code yX11_boundary cX11_boundary 1 (some .long) ∈ Big := big_t 817 (by decide +kernel) rfl
theorem w_71 : Cond.methodLink RL 46 yX11_sees ∈ Big := big_t 821 (by decide +kernel) rfl
theorem w_72 : Cond.instanceMethod yX11_sees ∈ Big := big_t 822 (by decide +kernel) rfl
theorem w_73 : Cond.selects RX11 yX11_sees yX11_sees ∈ Big := big_t 823 (by decide +kernel) rfl
theorem w_74 : Cond.code yX11_sees cX11_sees 3 (some .boolean) ∈ Big := big_t 824 (by decide +kernel) rfl
theorem w_75 : Cond.methodLink RL 50 yX11_visible ∈ Big := big_t 860 (by decide +kernel) rfl
theorem w_76 : Cond.instanceMethod yX11_visible ∈ Big := big_t 861 (by decide +kernel) rfl
theorem w_77 : Cond.selects RX11 yX11_visible yX11_visible ∈ Big := big_t 862 (by decide +kernel) rfl
theorem w_78 : Cond.code yX11_visible cX11_visible 2 (some .long) ∈ Big := big_t 863 (by decide +kernel) rfl
theorem w_79 : Cond.methodLink RL 54 yX11_kernel ∈ Big := big_t 867 (by decide +kernel) rfl
theorem w_80 : Cond.instanceMethod yX11_kernel ∈ Big := big_t 868 (by decide +kernel) rfl
theorem w_81 : Cond.selects RX11 yX11_kernel yX11_kernel ∈ Big := big_t 869 (by decide +kernel) rfl
theorem w_82 : Cond.code yX11_kernel cX11_kernel 1 (some .long) ∈ Big := big_t 870 (by decide +kernel) rfl
theorem w_83 : Cond.methodLink RL 57 yX11_linkDistance ∈ Big := big_t 893 (by decide +kernel) rfl
theorem w_84 : Cond.instanceMethod yX11_linkDistance ∈ Big := big_t 894 (by decide +kernel) rfl
theorem w_85 : Cond.selects RX11 yX11_linkDistance yX11_linkDistance ∈ Big := big_t 895 (by decide +kernel) rfl
theorem w_86 : Cond.code yX11_linkDistance cX11_linkDistance 3 (some .int) ∈ Big := big_t 896 (by decide +kernel) rfl
theorem w_87 : Cond.methodLink RL 60 yX11_diameter ∈ Big := big_t 908 (by decide +kernel) rfl
theorem w_88 : Cond.instanceMethod yX11_diameter ∈ Big := big_t 909 (by decide +kernel) rfl
theorem w_89 : Cond.selects RX11 yX11_diameter yX11_diameter ∈ Big := big_t 910 (by decide +kernel) rfl
theorem w_90 : Cond.code yX11_diameter cX11_diameter 1 (some .int) ∈ Big := big_t 911 (by decide +kernel) rfl
theorem w_91 : Cond.methodLink RL 63 yX11_farthest ∈ Big := big_t 933 (by decide +kernel) rfl
theorem w_92 : Cond.instanceMethod yX11_farthest ∈ Big := big_t 934 (by decide +kernel) rfl
theorem w_93 : Cond.selects RX11 yX11_farthest yX11_farthest ∈ Big := big_t 935 (by decide +kernel) rfl
theorem w_94 : Cond.code yX11_farthest cX11_farthest 2 (some .int) ∈ Big := big_t 936 (by decide +kernel) rfl
theorem w_95 : Cond.methodLink RL 66 yX11_seenFromEdge ∈ Big := big_t 941 (by decide +kernel) rfl
theorem w_96 : Cond.instanceMethod yX11_seenFromEdge ∈ Big := big_t 942 (by decide +kernel) rfl
theorem w_97 : Cond.selects RX11 yX11_seenFromEdge yX11_seenFromEdge ∈ Big := big_t 943 (by decide +kernel) rfl
theorem w_98 : Cond.code yX11_seenFromEdge cX11_seenFromEdge 2 (some .long) ∈ Big := big_t 944 (by decide +kernel) rfl
theorem w_99 : Cond.methodLink RL 69 yX11_triangleVertex ∈ Big := big_t 953 (by decide +kernel) rfl
theorem w_100 : Cond.instanceMethod yX11_triangleVertex ∈ Big := big_t 954 (by decide +kernel) rfl
theorem w_101 : Cond.selects RX11 yX11_triangleVertex yX11_triangleVertex ∈ Big := big_t 955 (by decide +kernel) rfl
theorem w_102 : Cond.code yX11_triangleVertex cX11_triangleVertex 3 (some .int) ∈ Big := big_t 956 (by decide +kernel) rfl
theorem w_103 : Cond.methodLink RL 72 yX11_triangleArea ∈ Big := big_t 1008 (by decide +kernel) rfl
theorem w_104 : Cond.instanceMethod yX11_triangleArea ∈ Big := big_t 1009 (by decide +kernel) rfl
theorem w_105 : Cond.selects RX11 yX11_triangleArea yX11_triangleArea ∈ Big := big_t 1010 (by decide +kernel) rfl
theorem w_106 : Cond.code yX11_triangleArea cX11_triangleArea 2 (some .int) ∈ Big := big_t 1011 (by decide +kernel) rfl
theorem w_107 : Cond.methodLink RL 75 yX11_colour ∈ Big := big_t 1021 (by decide +kernel) rfl
theorem w_108 : Cond.instanceMethod yX11_colour ∈ Big := big_t 1022 (by decide +kernel) rfl
theorem w_109 : Cond.selects RX11 yX11_colour yX11_colour ∈ Big := big_t 1023 (by decide +kernel) rfl
theorem w_110 : Cond.code yX11_colour cX11_colour 2 (some .int) ∈ Big := big_t 1024 (by decide +kernel) rfl
theorem w_111 : Cond.methodLink RL 78 yX11_colourGuards ∈ Big := big_t 1032 (by decide +kernel) rfl
theorem w_112 : Cond.instanceMethod yX11_colourGuards ∈ Big := big_t 1033 (by decide +kernel) rfl
theorem w_113 : Cond.selects RX11 yX11_colourGuards yX11_colourGuards ∈ Big := big_t 1034 (by decide +kernel) rfl
theorem w_114 : Cond.code yX11_colourGuards cX11_colourGuards 1 (some .int) ∈ Big := big_t 1035 (by decide +kernel) rfl
theorem w_115 : Cond.methodLink RL 81 yX11_vertexGuards ∈ Big := big_t 1054 (by decide +kernel) rfl
theorem w_116 : Cond.instanceMethod yX11_vertexGuards ∈ Big := big_t 1055 (by decide +kernel) rfl
theorem w_117 : Cond.selects RX11 yX11_vertexGuards yX11_vertexGuards ∈ Big := big_t 1056 (by decide +kernel) rfl
theorem w_118 : Cond.code yX11_vertexGuards cX11_vertexGuards 1 (some .int) ∈ Big := big_t 1057 (by decide +kernel) rfl
theorem w_119 : Cond.methodLink RL 84 yX11_edgeGuards ∈ Big := big_t 1081 (by decide +kernel) rfl
theorem w_120 : Cond.instanceMethod yX11_edgeGuards ∈ Big := big_t 1082 (by decide +kernel) rfl
theorem w_121 : Cond.selects RX11 yX11_edgeGuards yX11_edgeGuards ∈ Big := big_t 1083 (by decide +kernel) rfl
theorem w_122 : Cond.code yX11_edgeGuards cX11_edgeGuards 1 (some .int) ∈ Big := big_t 1084 (by decide +kernel) rfl
theorem w_123 : Cond.methodLink RL 87 yX11_guardNumber ∈ Big := big_t 1093 (by decide +kernel) rfl
theorem w_124 : Cond.instanceMethod yX11_guardNumber ∈ Big := big_t 1094 (by decide +kernel) rfl
theorem w_125 : Cond.selects RX11 yX11_guardNumber yX11_guardNumber ∈ Big := big_t 1095 (by decide +kernel) rfl
theorem w_126 : Cond.code yX11_guardNumber cX11_guardNumber 1 (some .int) ∈ Big := big_t 1096 (by decide +kernel) rfl
theorem w_127 : Cond.methodLink RL 90 yX11_guardPoint ∈ Big := big_t 1109 (by decide +kernel) rfl
theorem w_128 : Cond.instanceMethod yX11_guardPoint ∈ Big := big_t 1110 (by decide +kernel) rfl
theorem w_129 : Cond.selects RX11 yX11_guardPoint yX11_guardPoint ∈ Big := big_t 1111 (by decide +kernel) rfl
theorem w_130 : Cond.code yX11_guardPoint cX11_guardPoint 2 (some .int) ∈ Big := big_t 1112 (by decide +kernel) rfl
theorem w_131 : Cond.methodLink RL 93 yX11_witnessNumber ∈ Big := big_t 1120 (by decide +kernel) rfl
theorem w_132 : Cond.instanceMethod yX11_witnessNumber ∈ Big := big_t 1121 (by decide +kernel) rfl
theorem w_133 : Cond.selects RX11 yX11_witnessNumber yX11_witnessNumber ∈ Big := big_t 1122 (by decide +kernel) rfl
theorem w_134 : Cond.code yX11_witnessNumber cX11_witnessNumber 1 (some .int) ∈ Big := big_t 1123 (by decide +kernel) rfl
theorem w_135 : Cond.methodLink RL 96 yX11_witness ∈ Big := big_t 1146 (by decide +kernel) rfl
theorem w_136 : Cond.instanceMethod yX11_witness ∈ Big := big_t 1147 (by decide +kernel) rfl
theorem w_137 : Cond.selects RX11 yX11_witness yX11_witness ∈ Big := big_t 1148 (by decide +kernel) rfl
theorem w_138 : Cond.code yX11_witness cX11_witness 2 (some .int) ∈ Big := big_t 1149 (by decide +kernel) rfl
theorem w_139 : Cond.methodLink RL 99 yX11_hiddenNumber ∈ Big := big_t 1157 (by decide +kernel) rfl
theorem w_140 : Cond.instanceMethod yX11_hiddenNumber ∈ Big := big_t 1158 (by decide +kernel) rfl
theorem w_141 : Cond.selects RX11 yX11_hiddenNumber yX11_hiddenNumber ∈ Big := big_t 1159 (by decide +kernel) rfl
theorem w_142 : Cond.code yX11_hiddenNumber cX11_hiddenNumber 1 (some .int) ∈ Big := big_t 1160 (by decide +kernel) rfl
theorem w_143 : Cond.methodLink RL 102 yX11_guardAt ∈ Big := big_t 1185 (by decide +kernel) rfl
theorem w_144 : Cond.instanceMethod yX11_guardAt ∈ Big := big_t 1186 (by decide +kernel) rfl
theorem w_145 : Cond.selects RX11 yX11_guardAt yX11_guardAt ∈ Big := big_t 1187 (by decide +kernel) rfl
theorem w_146 : Cond.code yX11_guardAt cX11_guardAt 2 (some .int) ∈ Big := big_t 1188 (by decide +kernel) rfl
theorem w_147 : Cond.methodLink RL 105 yX11_guardRange ∈ Big := big_t 1205 (by decide +kernel) rfl
theorem w_148 : Cond.instanceMethod yX11_guardRange ∈ Big := big_t 1206 (by decide +kernel) rfl
theorem w_149 : Cond.selects RX11 yX11_guardRange yX11_guardRange ∈ Big := big_t 1207 (by decide +kernel) rfl
theorem w_150 : Cond.code yX11_guardRange cX11_guardRange 2 (some .int) ∈ Big := big_t 1208 (by decide +kernel) rfl
theorem w_151 : Cond.methodLink RL 108 yX11_watched ∈ Big := big_t 1216 (by decide +kernel) rfl
theorem w_152 : Cond.instanceMethod yX11_watched ∈ Big := big_t 1217 (by decide +kernel) rfl
theorem w_153 : Cond.selects RX11 yX11_watched yX11_watched ∈ Big := big_t 1218 (by decide +kernel) rfl
theorem w_154 : Cond.code yX11_watched cX11_watched 2 (some .long) ∈ Big := big_t 1219 (by decide +kernel) rfl
theorem w_155 : Cond.methodLink RL 111 yX11_unwatched ∈ Big := big_t 1237 (by decide +kernel) rfl
theorem w_156 : Cond.instanceMethod yX11_unwatched ∈ Big := big_t 1238 (by decide +kernel) rfl
theorem w_157 : Cond.selects RX11 yX11_unwatched yX11_unwatched ∈ Big := big_t 1239 (by decide +kernel) rfl
theorem w_158 : Cond.code yX11_unwatched cX11_unwatched 1 (some .long) ∈ Big := big_t 1240 (by decide +kernel) rfl
theorem w_159 : Cond.methodLink RL 114 yX11_watchers ∈ Big := big_t 1251 (by decide +kernel) rfl
theorem w_160 : Cond.instanceMethod yX11_watchers ∈ Big := big_t 1252 (by decide +kernel) rfl
theorem w_161 : Cond.selects RX11 yX11_watchers yX11_watchers ∈ Big := big_t 1253 (by decide +kernel) rfl
theorem w_162 : Cond.code yX11_watchers cX11_watchers 2 (some .int) ∈ Big := big_t 1254 (by decide +kernel) rfl
theorem w_163 : Cond.methodLink RL 117 yX11_redundantGuards ∈ Big := big_t 1262 (by decide +kernel) rfl
theorem w_164 : Cond.instanceMethod yX11_redundantGuards ∈ Big := big_t 1263 (by decide +kernel) rfl
theorem w_165 : Cond.selects RX11 yX11_redundantGuards yX11_redundantGuards ∈ Big := big_t 1264 (by decide +kernel) rfl
theorem w_166 : Cond.code yX11_redundantGuards cX11_redundantGuards 1 (some .int) ∈ Big := big_t 1265 (by decide +kernel) rfl
theorem w_167 : Cond.methodLink RL 120 yX11_bestPoint ∈ Big := big_t 1274 (by decide +kernel) rfl
theorem w_168 : Cond.instanceMethod yX11_bestPoint ∈ Big := big_t 1275 (by decide +kernel) rfl
theorem w_169 : Cond.selects RX11 yX11_bestPoint yX11_bestPoint ∈ Big := big_t 1276 (by decide +kernel) rfl
theorem w_170 : Cond.code yX11_bestPoint cX11_bestPoint 1 (some .int) ∈ Big := big_t 1277 (by decide +kernel) rfl
theorem w_171 : Cond.methodLink RL 123 yX11_greedyGuards ∈ Big := big_t 1286 (by decide +kernel) rfl
theorem w_172 : Cond.instanceMethod yX11_greedyGuards ∈ Big := big_t 1287 (by decide +kernel) rfl
theorem w_173 : Cond.selects RX11 yX11_greedyGuards yX11_greedyGuards ∈ Big := big_t 1288 (by decide +kernel) rfl
theorem w_174 : Cond.code yX11_greedyGuards cX11_greedyGuards 1 (some .int) ∈ Big := big_t 1289 (by decide +kernel) rfl
theorem w_175 : Cond.methodLink RL 126 yX11_treasureAt ∈ Big := big_t 1300 (by decide +kernel) rfl
theorem w_176 : Cond.instanceMethod yX11_treasureAt ∈ Big := big_t 1301 (by decide +kernel) rfl
theorem w_177 : Cond.selects RX11 yX11_treasureAt yX11_treasureAt ∈ Big := big_t 1302 (by decide +kernel) rfl
theorem w_178 : Cond.code yX11_treasureAt cX11_treasureAt 2 (some .int) ∈ Big := big_t 1303 (by decide +kernel) rfl
theorem w_179 : Cond.methodLink RL 129 yX11_watchedValue ∈ Big := big_t 1319 (by decide +kernel) rfl
theorem w_180 : Cond.instanceMethod yX11_watchedValue ∈ Big := big_t 1320 (by decide +kernel) rfl
theorem w_181 : Cond.selects RX11 yX11_watchedValue yX11_watchedValue ∈ Big := big_t 1321 (by decide +kernel) rfl
theorem w_182 : Cond.code yX11_watchedValue cX11_watchedValue 1 (some .int) ∈ Big := big_t 1322 (by decide +kernel) rfl
theorem w_183 : Cond.methodLink RL 132 yX11_bestValue ∈ Big := big_t 1335 (by decide +kernel) rfl
theorem w_184 : Cond.instanceMethod yX11_bestValue ∈ Big := big_t 1336 (by decide +kernel) rfl
theorem w_185 : Cond.selects RX11 yX11_bestValue yX11_bestValue ∈ Big := big_t 1337 (by decide +kernel) rfl
theorem w_186 : Cond.code yX11_bestValue cX11_bestValue 1 (some .int) ∈ Big := big_t 1338 (by decide +kernel) rfl
theorem w_187 : Cond.methodLink RL 135 yX11_draw ∈ Big := big_t 1348 (by decide +kernel) rfl
theorem w_188 : Cond.instanceMethod yX11_draw ∈ Big := big_t 1349 (by decide +kernel) rfl
theorem w_189 : Cond.selects RX11 yX11_draw yX11_draw ∈ Big := big_t 1350 (by decide +kernel) rfl
theorem w_190 : Cond.code yX11_draw cX11_draw 6 (some .int) ∈ Big := big_t 1351 (by decide +kernel) rfl
theorem w_191 : Cond.methodLink RL 141 yX11_addGuard ∈ Big := big_t 1378 (by decide +kernel) rfl
theorem w_192 : Cond.instanceMethod yX11_addGuard ∈ Big := big_t 1379 (by decide +kernel) rfl
theorem w_193 : Cond.selects RX11 yX11_addGuard yX11_addGuard ∈ Big := big_t 1380 (by decide +kernel) rfl
theorem w_194 : Cond.code yX11_addGuard cX11_addGuard 3 (some .int) ∈ Big := big_t 1381 (by decide +kernel) rfl
theorem w_195 : Cond.methodLink RL 144 yX11_removeGuard ∈ Big := big_t 1392 (by decide +kernel) rfl
theorem w_196 : Cond.instanceMethod yX11_removeGuard ∈ Big := big_t 1393 (by decide +kernel) rfl
theorem w_197 : Cond.selects RX11 yX11_removeGuard yX11_removeGuard ∈ Big := big_t 1394 (by decide +kernel) rfl
theorem w_198 : Cond.code yX11_removeGuard cX11_removeGuard 2 (some .int) ∈ Big := big_t 1395 (by decide +kernel) rfl
theorem w_199 : Cond.methodLink RL 147 yX11_moveGuard ∈ Big := big_t 1403 (by decide +kernel) rfl
theorem w_200 : Cond.instanceMethod yX11_moveGuard ∈ Big := big_t 1404 (by decide +kernel) rfl
theorem w_201 : Cond.selects RX11 yX11_moveGuard yX11_moveGuard ∈ Big := big_t 1405 (by decide +kernel) rfl
theorem w_202 : Cond.code yX11_moveGuard cX11_moveGuard 4 (some .int) ∈ Big := big_t 1406 (by decide +kernel) rfl
theorem w_203 : Cond.methodLink RL 150 yX11_setRange ∈ Big := big_t 1414 (by decide +kernel) rfl
theorem w_204 : Cond.instanceMethod yX11_setRange ∈ Big := big_t 1415 (by decide +kernel) rfl
theorem w_205 : Cond.selects RX11 yX11_setRange yX11_setRange ∈ Big := big_t 1416 (by decide +kernel) rfl
theorem w_206 : Cond.code yX11_setRange cX11_setRange 4 (some .int) ∈ Big := big_t 1417 (by decide +kernel) rfl
theorem w_207 : Cond.methodLink RL 153 yX11_moveVertex ∈ Big := big_t 1425 (by decide +kernel) rfl
theorem w_208 : Cond.instanceMethod yX11_moveVertex ∈ Big := big_t 1426 (by decide +kernel) rfl
theorem w_209 : Cond.selects RX11 yX11_moveVertex yX11_moveVertex ∈ Big := big_t 1427 (by decide +kernel) rfl
theorem w_210 : Cond.code yX11_moveVertex cX11_moveVertex 4 (some .int) ∈ Big := big_t 1428 (by decide +kernel) rfl
theorem w_211 : Cond.methodLink RL 157 yX11_insertVertex ∈ Big := big_t 1451 (by decide +kernel) rfl
theorem w_212 : Cond.instanceMethod yX11_insertVertex ∈ Big := big_t 1452 (by decide +kernel) rfl
theorem w_213 : Cond.selects RX11 yX11_insertVertex yX11_insertVertex ∈ Big := big_t 1453 (by decide +kernel) rfl
theorem w_214 : Cond.code yX11_insertVertex cX11_insertVertex 4 (some .int) ∈ Big := big_t 1454 (by decide +kernel) rfl
theorem w_215 : Cond.methodLink RL 160 yX11_deleteVertex ∈ Big := big_t 1460 (by decide +kernel) rfl
theorem w_216 : Cond.instanceMethod yX11_deleteVertex ∈ Big := big_t 1461 (by decide +kernel) rfl
theorem w_217 : Cond.selects RX11 yX11_deleteVertex yX11_deleteVertex ∈ Big := big_t 1462 (by decide +kernel) rfl
theorem w_218 : Cond.code yX11_deleteVertex cX11_deleteVertex 2 (some .int) ∈ Big := big_t 1463 (by decide +kernel) rfl
theorem w_219 : Cond.methodLink RL 166 yX11_save ∈ Big := big_t 1483 (by decide +kernel) rfl
theorem w_220 : Cond.instanceMethod yX11_save ∈ Big := big_t 1484 (by decide +kernel) rfl
theorem w_221 : Cond.selects RX11 yX11_save yX11_save ∈ Big := big_t 1485 (by decide +kernel) rfl
theorem w_222 : Cond.code yX11_save cX11_save 2 (some .int) ∈ Big := big_t 1486 (by decide +kernel) rfl
theorem kc_X11 : Kc 10 RX11 TX11 18 tyX11 := ⟨rfl, big_ws (lt_s (lt_s (lt_s (lt_s (lt_s (lt_s (lt_s (lt_s (lt_s (lt_s (lt_s (lt_s (lt_s (lt_s (lt_s (lt_s (lt_s (lt_s lt_0 w_0) w_1) w_2) w_3) w_4) w_5) w_6) w_7) w_8) w_9) w_10) w_11) w_12) w_13) w_14) w_15) w_16) w_17), tyX11_ok, nmX11⟩
theorem fg_X11_19 : Fg RX11 19 10 2 (.object "GalleryGuards$Plan") true true := ⟨_, _, _, _, kc_X11, by decide, w_18, by decide +kernel, rfl, fun _ => rfl⟩
theorem kc_X6 : Kc 5 RX6 TX6 11 tyX6 := ⟨rfl, big_ws (lt_s (lt_s (lt_s (lt_s (lt_s (lt_s (lt_s (lt_s (lt_s (lt_s (lt_s lt_0 w_19) w_20) w_21) w_22) w_23) w_24) w_25) w_26) w_27) w_28) w_29), tyX6_ok, nmX6⟩
theorem fg_X11_152 : Fg RX11 152 5 0 (.int) false false := ⟨_, _, _, _, kc_X6, by decide, w_30, by decide +kernel, rfl, fun h => nomatch h⟩
theorem cd_yX11_needPolygon : Cd yX11_needPolygon 0 := ⟨by decide +kernel, by decide +kernel, by decide +kernel⟩
theorem cV_X11_155 : CV RX11 155 yX11_needPolygon cX11_needPolygon 1 none 0 := ⟨w_33, w_34, w_35, w_36, w_37, cd_yX11_needPolygon⟩
theorem cd_yX11_vertexX : Cd yX11_vertexX 1 := ⟨by decide +kernel, by decide +kernel, by decide +kernel⟩
theorem cV_L_17 : CV RL 17 yX11_vertexX cX11_vertexX 2 (some .int) 1 := ⟨w_38, w_39, w_40, w_36, w_41, cd_yX11_vertexX⟩
theorem cd_yX11_vertexY : Cd yX11_vertexY 1 := ⟨by decide +kernel, by decide +kernel, by decide +kernel⟩
theorem cV_L_22 : CV RL 22 yX11_vertexY cX11_vertexY 2 (some .int) 1 := ⟨w_43, w_44, w_45, w_36, w_46, cd_yX11_vertexY⟩
theorem cd_yX11_doubleArea : Cd yX11_doubleArea 0 := ⟨by decide +kernel, by decide +kernel, by decide +kernel⟩
theorem cV_L_25 : CV RL 25 yX11_doubleArea cX11_doubleArea 1 (some .int) 0 := ⟨w_47, w_48, w_49, w_36, w_50, cd_yX11_doubleArea⟩
theorem cd_yX11_reflexVertices : Cd yX11_reflexVertices 0 := ⟨by decide +kernel, by decide +kernel, by decide +kernel⟩
theorem cV_L_29 : CV RL 29 yX11_reflexVertices cX11_reflexVertices 1 (some .int) 0 := ⟨w_51, w_52, w_53, w_36, w_54, cd_yX11_reflexVertices⟩
theorem cd_yX11_pointX : Cd yX11_pointX 1 := ⟨by decide +kernel, by decide +kernel, by decide +kernel⟩
theorem cV_L_32 : CV RL 32 yX11_pointX cX11_pointX 2 (some .int) 1 := ⟨w_55, w_56, w_57, w_36, w_58, cd_yX11_pointX⟩
theorem cd_yX11_pointY : Cd yX11_pointY 1 := ⟨by decide +kernel, by decide +kernel, by decide +kernel⟩
theorem cV_L_35 : CV RL 35 yX11_pointY cX11_pointY 2 (some .int) 1 := ⟨w_59, w_60, w_61, w_36, w_62, cd_yX11_pointY⟩
theorem cd_yX11_pointAt : Cd yX11_pointAt 2 := ⟨by decide +kernel, by decide +kernel, by decide +kernel⟩
theorem cV_L_38 : CV RL 38 yX11_pointAt cX11_pointAt 3 (some .int) 2 := ⟨w_63, w_64, w_65, w_36, w_66, cd_yX11_pointAt⟩
theorem cd_yX11_boundary : Cd yX11_boundary 0 := ⟨by decide +kernel, by decide +kernel, by decide +kernel⟩
theorem cV_L_42 : CV RL 42 yX11_boundary cX11_boundary 1 (some .long) 0 := ⟨w_67, w_68, w_69, w_36, w_70, cd_yX11_boundary⟩
theorem cd_yX11_sees : Cd yX11_sees 2 := ⟨by decide +kernel, by decide +kernel, by decide +kernel⟩
theorem cV_L_46 : CV RL 46 yX11_sees cX11_sees 3 (some .boolean) 2 := ⟨w_71, w_72, w_73, w_36, w_74, cd_yX11_sees⟩
theorem cd_yX11_visible : Cd yX11_visible 1 := ⟨by decide +kernel, by decide +kernel, by decide +kernel⟩
theorem cV_L_50 : CV RL 50 yX11_visible cX11_visible 2 (some .long) 1 := ⟨w_75, w_76, w_77, w_36, w_78, cd_yX11_visible⟩
theorem cd_yX11_kernel : Cd yX11_kernel 0 := ⟨by decide +kernel, by decide +kernel, by decide +kernel⟩
theorem cV_L_54 : CV RL 54 yX11_kernel cX11_kernel 1 (some .long) 0 := ⟨w_79, w_80, w_81, w_36, w_82, cd_yX11_kernel⟩
theorem cd_yX11_linkDistance : Cd yX11_linkDistance 2 := ⟨by decide +kernel, by decide +kernel, by decide +kernel⟩
theorem cV_L_57 : CV RL 57 yX11_linkDistance cX11_linkDistance 3 (some .int) 2 := ⟨w_83, w_84, w_85, w_36, w_86, cd_yX11_linkDistance⟩
theorem cd_yX11_diameter : Cd yX11_diameter 0 := ⟨by decide +kernel, by decide +kernel, by decide +kernel⟩
theorem cV_L_60 : CV RL 60 yX11_diameter cX11_diameter 1 (some .int) 0 := ⟨w_87, w_88, w_89, w_36, w_90, cd_yX11_diameter⟩
theorem cd_yX11_farthest : Cd yX11_farthest 1 := ⟨by decide +kernel, by decide +kernel, by decide +kernel⟩
theorem cV_L_63 : CV RL 63 yX11_farthest cX11_farthest 2 (some .int) 1 := ⟨w_91, w_92, w_93, w_36, w_94, cd_yX11_farthest⟩
theorem cd_yX11_seenFromEdge : Cd yX11_seenFromEdge 1 := ⟨by decide +kernel, by decide +kernel, by decide +kernel⟩
theorem cV_L_66 : CV RL 66 yX11_seenFromEdge cX11_seenFromEdge 2 (some .long) 1 := ⟨w_95, w_96, w_97, w_36, w_98, cd_yX11_seenFromEdge⟩
theorem cd_yX11_triangleVertex : Cd yX11_triangleVertex 2 := ⟨by decide +kernel, by decide +kernel, by decide +kernel⟩
theorem cV_L_69 : CV RL 69 yX11_triangleVertex cX11_triangleVertex 3 (some .int) 2 := ⟨w_99, w_100, w_101, w_36, w_102, cd_yX11_triangleVertex⟩
theorem cd_yX11_triangleArea : Cd yX11_triangleArea 1 := ⟨by decide +kernel, by decide +kernel, by decide +kernel⟩
theorem cV_L_72 : CV RL 72 yX11_triangleArea cX11_triangleArea 2 (some .int) 1 := ⟨w_103, w_104, w_105, w_36, w_106, cd_yX11_triangleArea⟩
theorem cd_yX11_colour : Cd yX11_colour 1 := ⟨by decide +kernel, by decide +kernel, by decide +kernel⟩
theorem cV_L_75 : CV RL 75 yX11_colour cX11_colour 2 (some .int) 1 := ⟨w_107, w_108, w_109, w_36, w_110, cd_yX11_colour⟩
theorem cd_yX11_colourGuards : Cd yX11_colourGuards 0 := ⟨by decide +kernel, by decide +kernel, by decide +kernel⟩
theorem cV_L_78 : CV RL 78 yX11_colourGuards cX11_colourGuards 1 (some .int) 0 := ⟨w_111, w_112, w_113, w_36, w_114, cd_yX11_colourGuards⟩
theorem cd_yX11_vertexGuards : Cd yX11_vertexGuards 0 := ⟨by decide +kernel, by decide +kernel, by decide +kernel⟩
theorem cV_L_81 : CV RL 81 yX11_vertexGuards cX11_vertexGuards 1 (some .int) 0 := ⟨w_115, w_116, w_117, w_36, w_118, cd_yX11_vertexGuards⟩
theorem cd_yX11_edgeGuards : Cd yX11_edgeGuards 0 := ⟨by decide +kernel, by decide +kernel, by decide +kernel⟩
theorem cV_L_84 : CV RL 84 yX11_edgeGuards cX11_edgeGuards 1 (some .int) 0 := ⟨w_119, w_120, w_121, w_36, w_122, cd_yX11_edgeGuards⟩
theorem cd_yX11_guardNumber : Cd yX11_guardNumber 0 := ⟨by decide +kernel, by decide +kernel, by decide +kernel⟩
theorem cV_L_87 : CV RL 87 yX11_guardNumber cX11_guardNumber 1 (some .int) 0 := ⟨w_123, w_124, w_125, w_36, w_126, cd_yX11_guardNumber⟩
theorem cd_yX11_guardPoint : Cd yX11_guardPoint 1 := ⟨by decide +kernel, by decide +kernel, by decide +kernel⟩
theorem cV_L_90 : CV RL 90 yX11_guardPoint cX11_guardPoint 2 (some .int) 1 := ⟨w_127, w_128, w_129, w_36, w_130, cd_yX11_guardPoint⟩
theorem cd_yX11_witnessNumber : Cd yX11_witnessNumber 0 := ⟨by decide +kernel, by decide +kernel, by decide +kernel⟩
theorem cV_L_93 : CV RL 93 yX11_witnessNumber cX11_witnessNumber 1 (some .int) 0 := ⟨w_131, w_132, w_133, w_36, w_134, cd_yX11_witnessNumber⟩
theorem cd_yX11_witness : Cd yX11_witness 1 := ⟨by decide +kernel, by decide +kernel, by decide +kernel⟩
theorem cV_L_96 : CV RL 96 yX11_witness cX11_witness 2 (some .int) 1 := ⟨w_135, w_136, w_137, w_36, w_138, cd_yX11_witness⟩
theorem cd_yX11_hiddenNumber : Cd yX11_hiddenNumber 0 := ⟨by decide +kernel, by decide +kernel, by decide +kernel⟩
theorem cV_L_99 : CV RL 99 yX11_hiddenNumber cX11_hiddenNumber 1 (some .int) 0 := ⟨w_139, w_140, w_141, w_36, w_142, cd_yX11_hiddenNumber⟩
theorem cd_yX11_guardAt : Cd yX11_guardAt 1 := ⟨by decide +kernel, by decide +kernel, by decide +kernel⟩
theorem cV_L_102 : CV RL 102 yX11_guardAt cX11_guardAt 2 (some .int) 1 := ⟨w_143, w_144, w_145, w_36, w_146, cd_yX11_guardAt⟩
theorem cd_yX11_guardRange : Cd yX11_guardRange 1 := ⟨by decide +kernel, by decide +kernel, by decide +kernel⟩
theorem cV_L_105 : CV RL 105 yX11_guardRange cX11_guardRange 2 (some .int) 1 := ⟨w_147, w_148, w_149, w_36, w_150, cd_yX11_guardRange⟩
theorem cd_yX11_watched : Cd yX11_watched 1 := ⟨by decide +kernel, by decide +kernel, by decide +kernel⟩
theorem cV_L_108 : CV RL 108 yX11_watched cX11_watched 2 (some .long) 1 := ⟨w_151, w_152, w_153, w_36, w_154, cd_yX11_watched⟩
theorem cd_yX11_unwatched : Cd yX11_unwatched 0 := ⟨by decide +kernel, by decide +kernel, by decide +kernel⟩
theorem cV_L_111 : CV RL 111 yX11_unwatched cX11_unwatched 1 (some .long) 0 := ⟨w_155, w_156, w_157, w_36, w_158, cd_yX11_unwatched⟩
theorem cd_yX11_watchers : Cd yX11_watchers 1 := ⟨by decide +kernel, by decide +kernel, by decide +kernel⟩
theorem cV_L_114 : CV RL 114 yX11_watchers cX11_watchers 2 (some .int) 1 := ⟨w_159, w_160, w_161, w_36, w_162, cd_yX11_watchers⟩
theorem cd_yX11_redundantGuards : Cd yX11_redundantGuards 0 := ⟨by decide +kernel, by decide +kernel, by decide +kernel⟩
theorem cV_L_117 : CV RL 117 yX11_redundantGuards cX11_redundantGuards 1 (some .int) 0 := ⟨w_163, w_164, w_165, w_36, w_166, cd_yX11_redundantGuards⟩
theorem cd_yX11_bestPoint : Cd yX11_bestPoint 0 := ⟨by decide +kernel, by decide +kernel, by decide +kernel⟩
theorem cV_L_120 : CV RL 120 yX11_bestPoint cX11_bestPoint 1 (some .int) 0 := ⟨w_167, w_168, w_169, w_36, w_170, cd_yX11_bestPoint⟩
theorem cd_yX11_greedyGuards : Cd yX11_greedyGuards 0 := ⟨by decide +kernel, by decide +kernel, by decide +kernel⟩
theorem cV_L_123 : CV RL 123 yX11_greedyGuards cX11_greedyGuards 1 (some .int) 0 := ⟨w_171, w_172, w_173, w_36, w_174, cd_yX11_greedyGuards⟩
theorem cd_yX11_treasureAt : Cd yX11_treasureAt 1 := ⟨by decide +kernel, by decide +kernel, by decide +kernel⟩
theorem cV_L_126 : CV RL 126 yX11_treasureAt cX11_treasureAt 2 (some .int) 1 := ⟨w_175, w_176, w_177, w_36, w_178, cd_yX11_treasureAt⟩
theorem cd_yX11_watchedValue : Cd yX11_watchedValue 0 := ⟨by decide +kernel, by decide +kernel, by decide +kernel⟩
theorem cV_L_129 : CV RL 129 yX11_watchedValue cX11_watchedValue 1 (some .int) 0 := ⟨w_179, w_180, w_181, w_36, w_182, cd_yX11_watchedValue⟩
theorem cd_yX11_bestValue : Cd yX11_bestValue 0 := ⟨by decide +kernel, by decide +kernel, by decide +kernel⟩
theorem cV_L_132 : CV RL 132 yX11_bestValue cX11_bestValue 1 (some .int) 0 := ⟨w_183, w_184, w_185, w_36, w_186, cd_yX11_bestValue⟩
theorem cd_yX11_draw : Cd yX11_draw 1 := ⟨by decide +kernel, by decide +kernel, by decide +kernel⟩
theorem cV_L_135 : CV RL 135 yX11_draw cX11_draw 6 (some .int) 1 := ⟨w_187, w_188, w_189, w_36, w_190, cd_yX11_draw⟩
theorem cd_yX11_addGuard : Cd yX11_addGuard 2 := ⟨by decide +kernel, by decide +kernel, by decide +kernel⟩
theorem cV_L_141 : CV RL 141 yX11_addGuard cX11_addGuard 3 (some .int) 2 := ⟨w_191, w_192, w_193, w_36, w_194, cd_yX11_addGuard⟩
theorem cd_yX11_removeGuard : Cd yX11_removeGuard 1 := ⟨by decide +kernel, by decide +kernel, by decide +kernel⟩
theorem cV_L_144 : CV RL 144 yX11_removeGuard cX11_removeGuard 2 (some .int) 1 := ⟨w_195, w_196, w_197, w_36, w_198, cd_yX11_removeGuard⟩
theorem cd_yX11_moveGuard : Cd yX11_moveGuard 2 := ⟨by decide +kernel, by decide +kernel, by decide +kernel⟩
theorem cV_L_147 : CV RL 147 yX11_moveGuard cX11_moveGuard 4 (some .int) 2 := ⟨w_199, w_200, w_201, w_36, w_202, cd_yX11_moveGuard⟩
theorem cd_yX11_setRange : Cd yX11_setRange 2 := ⟨by decide +kernel, by decide +kernel, by decide +kernel⟩
theorem cV_L_150 : CV RL 150 yX11_setRange cX11_setRange 4 (some .int) 2 := ⟨w_203, w_204, w_205, w_36, w_206, cd_yX11_setRange⟩
theorem cd_yX11_moveVertex : Cd yX11_moveVertex 3 := ⟨by decide +kernel, by decide +kernel, by decide +kernel⟩
theorem cV_L_153 : CV RL 153 yX11_moveVertex cX11_moveVertex 4 (some .int) 3 := ⟨w_207, w_208, w_209, w_36, w_210, cd_yX11_moveVertex⟩
theorem cd_yX11_insertVertex : Cd yX11_insertVertex 3 := ⟨by decide +kernel, by decide +kernel, by decide +kernel⟩
theorem cV_L_157 : CV RL 157 yX11_insertVertex cX11_insertVertex 4 (some .int) 3 := ⟨w_211, w_212, w_213, w_36, w_214, cd_yX11_insertVertex⟩
theorem cd_yX11_deleteVertex : Cd yX11_deleteVertex 1 := ⟨by decide +kernel, by decide +kernel, by decide +kernel⟩
theorem cV_L_160 : CV RL 160 yX11_deleteVertex cX11_deleteVertex 2 (some .int) 1 := ⟨w_215, w_216, w_217, w_36, w_218, cd_yX11_deleteVertex⟩
theorem cd_yX11_save : Cd yX11_save 1 := ⟨by decide +kernel, by decide +kernel, by decide +kernel⟩
theorem cV_L_166 : CV RL 166 yX11_save cX11_save 2 (some .int) 1 := ⟨w_219, w_220, w_221, w_36, w_222, cd_yX11_save⟩
theorem dL_addGuard_0 : decode cL_addGuard 0 = .ok (.aload_n 3, 1) := by decide +kernel
theorem dL_addGuard_1 : decode cL_addGuard 1 = .ok (.iconst 0, 1) := by decide +kernel
theorem dL_addGuard_2 : decode cL_addGuard 2 = .ok (.aload_n 0, 1) := by decide +kernel
theorem dL_addGuard_3 : decode cL_addGuard 3 = .ok (.iload_n 1, 1) := by decide +kernel
theorem dL_addGuard_4 : decode cL_addGuard 4 = .ok (.iload_n 2, 1) := by decide +kernel
theorem dL_addGuard_5 : decode cL_addGuard 5 = .ok (.invokevirtual 141, 3) := by decide +kernel
theorem dL_addGuard_13 : decode cL_addGuard 13 = .ok (.astore 4, 2) := by decide +kernel
theorem dL_addGuard_15 : decode cL_addGuard 15 = .ok (.iconst 1, 1) := by decide +kernel
theorem dL_addGuard_16 : decode cL_addGuard 16 = .ok (.ireturn, 1) := by decide +kernel
theorem dL_bestPoint_0 : decode cL_bestPoint 0 = .ok (.aload_n 1, 1) := by decide +kernel
theorem dL_bestPoint_1 : decode cL_bestPoint 1 = .ok (.iconst 0, 1) := by decide +kernel
theorem dL_bestPoint_2 : decode cL_bestPoint 2 = .ok (.aload_n 0, 1) := by decide +kernel
theorem dL_bestPoint_3 : decode cL_bestPoint 3 = .ok (.invokevirtual 120, 3) := by decide +kernel
theorem dL_bestPoint_11 : decode cL_bestPoint 11 = .ok (.astore_n 2, 1) := by decide +kernel
theorem dL_bestPoint_12 : decode cL_bestPoint 12 = .ok (.iconst 1, 1) := by decide +kernel
theorem dL_bestPoint_13 : decode cL_bestPoint 13 = .ok (.ireturn, 1) := by decide +kernel
theorem dL_bestValue_0 : decode cL_bestValue 0 = .ok (.aload_n 1, 1) := by decide +kernel
theorem dL_bestValue_1 : decode cL_bestValue 1 = .ok (.iconst 0, 1) := by decide +kernel
theorem dL_bestValue_2 : decode cL_bestValue 2 = .ok (.aload_n 0, 1) := by decide +kernel
theorem dL_bestValue_3 : decode cL_bestValue 3 = .ok (.invokevirtual 132, 3) := by decide +kernel
theorem dL_bestValue_11 : decode cL_bestValue 11 = .ok (.astore_n 2, 1) := by decide +kernel
theorem dL_bestValue_12 : decode cL_bestValue 12 = .ok (.iconst 1, 1) := by decide +kernel
theorem dL_bestValue_13 : decode cL_bestValue 13 = .ok (.ireturn, 1) := by decide +kernel
theorem dL_boundary_0 : decode cL_boundary 0 = .ok (.aload_n 1, 1) := by decide +kernel
theorem dL_boundary_1 : decode cL_boundary 1 = .ok (.iconst 0, 1) := by decide +kernel
theorem dL_boundary_2 : decode cL_boundary 2 = .ok (.aload_n 0, 1) := by decide +kernel
theorem dL_boundary_3 : decode cL_boundary 3 = .ok (.invokevirtual 42, 3) := by decide +kernel
theorem dL_boundary_10 : decode cL_boundary 10 = .ok (.astore_n 2, 1) := by decide +kernel
theorem dL_boundary_11 : decode cL_boundary 11 = .ok (.iconst 1, 1) := by decide +kernel
theorem dL_boundary_12 : decode cL_boundary 12 = .ok (.ireturn, 1) := by decide +kernel
theorem dL_colour_0 : decode cL_colour 0 = .ok (.aload_n 2, 1) := by decide +kernel
theorem dL_colour_1 : decode cL_colour 1 = .ok (.iconst 0, 1) := by decide +kernel
theorem dL_colour_2 : decode cL_colour 2 = .ok (.aload_n 0, 1) := by decide +kernel
theorem dL_colour_3 : decode cL_colour 3 = .ok (.iload_n 1, 1) := by decide +kernel
theorem dL_colour_4 : decode cL_colour 4 = .ok (.invokevirtual 75, 3) := by decide +kernel
theorem dL_colour_12 : decode cL_colour 12 = .ok (.astore_n 3, 1) := by decide +kernel
theorem dL_colour_13 : decode cL_colour 13 = .ok (.iconst 1, 1) := by decide +kernel
theorem dL_colour_14 : decode cL_colour 14 = .ok (.ireturn, 1) := by decide +kernel
theorem dL_colourGuards_0 : decode cL_colourGuards 0 = .ok (.aload_n 1, 1) := by decide +kernel
theorem dL_colourGuards_1 : decode cL_colourGuards 1 = .ok (.iconst 0, 1) := by decide +kernel
theorem dL_colourGuards_2 : decode cL_colourGuards 2 = .ok (.aload_n 0, 1) := by decide +kernel
theorem dL_colourGuards_3 : decode cL_colourGuards 3 = .ok (.invokevirtual 78, 3) := by decide +kernel
theorem dL_colourGuards_11 : decode cL_colourGuards 11 = .ok (.astore_n 2, 1) := by decide +kernel
theorem dL_colourGuards_12 : decode cL_colourGuards 12 = .ok (.iconst 1, 1) := by decide +kernel
theorem dL_colourGuards_13 : decode cL_colourGuards 13 = .ok (.ireturn, 1) := by decide +kernel
theorem dL_deleteVertex_0 : decode cL_deleteVertex 0 = .ok (.aload_n 2, 1) := by decide +kernel
theorem dL_deleteVertex_1 : decode cL_deleteVertex 1 = .ok (.iconst 0, 1) := by decide +kernel
theorem dL_deleteVertex_2 : decode cL_deleteVertex 2 = .ok (.aload_n 0, 1) := by decide +kernel
theorem dL_deleteVertex_3 : decode cL_deleteVertex 3 = .ok (.iload_n 1, 1) := by decide +kernel
theorem dL_deleteVertex_4 : decode cL_deleteVertex 4 = .ok (.invokevirtual 160, 3) := by decide +kernel
theorem dL_deleteVertex_12 : decode cL_deleteVertex 12 = .ok (.astore_n 3, 1) := by decide +kernel
theorem dL_deleteVertex_13 : decode cL_deleteVertex 13 = .ok (.iconst 1, 1) := by decide +kernel
theorem dL_deleteVertex_14 : decode cL_deleteVertex 14 = .ok (.ireturn, 1) := by decide +kernel
theorem dL_diameter_0 : decode cL_diameter 0 = .ok (.aload_n 1, 1) := by decide +kernel
theorem dL_diameter_1 : decode cL_diameter 1 = .ok (.iconst 0, 1) := by decide +kernel
theorem dL_diameter_2 : decode cL_diameter 2 = .ok (.aload_n 0, 1) := by decide +kernel
theorem dL_diameter_3 : decode cL_diameter 3 = .ok (.invokevirtual 60, 3) := by decide +kernel
theorem dL_diameter_11 : decode cL_diameter 11 = .ok (.astore_n 2, 1) := by decide +kernel
theorem dL_diameter_12 : decode cL_diameter 12 = .ok (.iconst 1, 1) := by decide +kernel
theorem dL_diameter_13 : decode cL_diameter 13 = .ok (.ireturn, 1) := by decide +kernel
theorem dL_doubleArea_0 : decode cL_doubleArea 0 = .ok (.aload_n 1, 1) := by decide +kernel
theorem dL_doubleArea_1 : decode cL_doubleArea 1 = .ok (.iconst 0, 1) := by decide +kernel
theorem dL_doubleArea_2 : decode cL_doubleArea 2 = .ok (.aload_n 0, 1) := by decide +kernel
theorem dL_doubleArea_3 : decode cL_doubleArea 3 = .ok (.invokevirtual 25, 3) := by decide +kernel
theorem dL_doubleArea_11 : decode cL_doubleArea 11 = .ok (.astore_n 2, 1) := by decide +kernel
theorem dL_doubleArea_12 : decode cL_doubleArea 12 = .ok (.iconst 1, 1) := by decide +kernel
theorem dL_doubleArea_13 : decode cL_doubleArea 13 = .ok (.ireturn, 1) := by decide +kernel
theorem dL_draw_0 : decode cL_draw 0 = .ok (.aload_n 2, 1) := by decide +kernel
theorem dL_draw_1 : decode cL_draw 1 = .ok (.iconst 0, 1) := by decide +kernel
theorem dL_draw_2 : decode cL_draw 2 = .ok (.aload_n 0, 1) := by decide +kernel
theorem dL_draw_3 : decode cL_draw 3 = .ok (.iload_n 1, 1) := by decide +kernel
theorem dL_draw_4 : decode cL_draw 4 = .ok (.invokevirtual 135, 3) := by decide +kernel
theorem dL_draw_12 : decode cL_draw 12 = .ok (.astore_n 3, 1) := by decide +kernel
theorem dL_draw_13 : decode cL_draw 13 = .ok (.iconst 1, 1) := by decide +kernel
theorem dL_draw_14 : decode cL_draw 14 = .ok (.ireturn, 1) := by decide +kernel
theorem dL_edgeGuards_0 : decode cL_edgeGuards 0 = .ok (.aload_n 1, 1) := by decide +kernel
theorem dL_edgeGuards_1 : decode cL_edgeGuards 1 = .ok (.iconst 0, 1) := by decide +kernel
theorem dL_edgeGuards_2 : decode cL_edgeGuards 2 = .ok (.aload_n 0, 1) := by decide +kernel
theorem dL_edgeGuards_3 : decode cL_edgeGuards 3 = .ok (.invokevirtual 84, 3) := by decide +kernel
theorem dL_edgeGuards_11 : decode cL_edgeGuards 11 = .ok (.astore_n 2, 1) := by decide +kernel
theorem dL_edgeGuards_12 : decode cL_edgeGuards 12 = .ok (.iconst 1, 1) := by decide +kernel
theorem dL_edgeGuards_13 : decode cL_edgeGuards 13 = .ok (.ireturn, 1) := by decide +kernel
theorem dL_farthest_0 : decode cL_farthest 0 = .ok (.aload_n 2, 1) := by decide +kernel
theorem dL_farthest_1 : decode cL_farthest 1 = .ok (.iconst 0, 1) := by decide +kernel
theorem dL_farthest_2 : decode cL_farthest 2 = .ok (.aload_n 0, 1) := by decide +kernel
theorem dL_farthest_3 : decode cL_farthest 3 = .ok (.iload_n 1, 1) := by decide +kernel
theorem dL_farthest_4 : decode cL_farthest 4 = .ok (.invokevirtual 63, 3) := by decide +kernel
theorem dL_farthest_12 : decode cL_farthest 12 = .ok (.astore_n 3, 1) := by decide +kernel
theorem dL_farthest_13 : decode cL_farthest 13 = .ok (.iconst 1, 1) := by decide +kernel
theorem dL_farthest_14 : decode cL_farthest 14 = .ok (.ireturn, 1) := by decide +kernel
theorem dL_greedyGuards_0 : decode cL_greedyGuards 0 = .ok (.aload_n 1, 1) := by decide +kernel
theorem dL_greedyGuards_1 : decode cL_greedyGuards 1 = .ok (.iconst 0, 1) := by decide +kernel
theorem dL_greedyGuards_2 : decode cL_greedyGuards 2 = .ok (.aload_n 0, 1) := by decide +kernel
theorem dL_greedyGuards_3 : decode cL_greedyGuards 3 = .ok (.invokevirtual 123, 3) := by decide +kernel
theorem dL_greedyGuards_11 : decode cL_greedyGuards 11 = .ok (.astore_n 2, 1) := by decide +kernel
theorem dL_greedyGuards_12 : decode cL_greedyGuards 12 = .ok (.iconst 1, 1) := by decide +kernel
theorem dL_greedyGuards_13 : decode cL_greedyGuards 13 = .ok (.ireturn, 1) := by decide +kernel
theorem dL_guardAt_0 : decode cL_guardAt 0 = .ok (.aload_n 2, 1) := by decide +kernel
theorem dL_guardAt_1 : decode cL_guardAt 1 = .ok (.iconst 0, 1) := by decide +kernel
theorem dL_guardAt_2 : decode cL_guardAt 2 = .ok (.aload_n 0, 1) := by decide +kernel
theorem dL_guardAt_3 : decode cL_guardAt 3 = .ok (.iload_n 1, 1) := by decide +kernel
theorem dL_guardAt_4 : decode cL_guardAt 4 = .ok (.invokevirtual 102, 3) := by decide +kernel
theorem dL_guardAt_12 : decode cL_guardAt 12 = .ok (.astore_n 3, 1) := by decide +kernel
theorem dL_guardAt_13 : decode cL_guardAt 13 = .ok (.iconst 1, 1) := by decide +kernel
theorem dL_guardAt_14 : decode cL_guardAt 14 = .ok (.ireturn, 1) := by decide +kernel
theorem dL_guardNumber_0 : decode cL_guardNumber 0 = .ok (.aload_n 1, 1) := by decide +kernel
theorem dL_guardNumber_1 : decode cL_guardNumber 1 = .ok (.iconst 0, 1) := by decide +kernel
theorem dL_guardNumber_2 : decode cL_guardNumber 2 = .ok (.aload_n 0, 1) := by decide +kernel
theorem dL_guardNumber_3 : decode cL_guardNumber 3 = .ok (.invokevirtual 87, 3) := by decide +kernel
theorem dL_guardNumber_11 : decode cL_guardNumber 11 = .ok (.astore_n 2, 1) := by decide +kernel
theorem dL_guardNumber_12 : decode cL_guardNumber 12 = .ok (.iconst 1, 1) := by decide +kernel
theorem dL_guardNumber_13 : decode cL_guardNumber 13 = .ok (.ireturn, 1) := by decide +kernel
theorem dL_guardPoint_0 : decode cL_guardPoint 0 = .ok (.aload_n 2, 1) := by decide +kernel
theorem dL_guardPoint_1 : decode cL_guardPoint 1 = .ok (.iconst 0, 1) := by decide +kernel
theorem dL_guardPoint_2 : decode cL_guardPoint 2 = .ok (.aload_n 0, 1) := by decide +kernel
theorem dL_guardPoint_3 : decode cL_guardPoint 3 = .ok (.iload_n 1, 1) := by decide +kernel
theorem dL_guardPoint_4 : decode cL_guardPoint 4 = .ok (.invokevirtual 90, 3) := by decide +kernel
theorem dL_guardPoint_12 : decode cL_guardPoint 12 = .ok (.astore_n 3, 1) := by decide +kernel
theorem dL_guardPoint_13 : decode cL_guardPoint 13 = .ok (.iconst 1, 1) := by decide +kernel
theorem dL_guardPoint_14 : decode cL_guardPoint 14 = .ok (.ireturn, 1) := by decide +kernel
theorem dL_guardRange_0 : decode cL_guardRange 0 = .ok (.aload_n 2, 1) := by decide +kernel
theorem dL_guardRange_1 : decode cL_guardRange 1 = .ok (.iconst 0, 1) := by decide +kernel
theorem dL_guardRange_2 : decode cL_guardRange 2 = .ok (.aload_n 0, 1) := by decide +kernel
theorem dL_guardRange_3 : decode cL_guardRange 3 = .ok (.iload_n 1, 1) := by decide +kernel
theorem dL_guardRange_4 : decode cL_guardRange 4 = .ok (.invokevirtual 105, 3) := by decide +kernel
theorem dL_guardRange_12 : decode cL_guardRange 12 = .ok (.astore_n 3, 1) := by decide +kernel
theorem dL_guardRange_13 : decode cL_guardRange 13 = .ok (.iconst 1, 1) := by decide +kernel
theorem dL_guardRange_14 : decode cL_guardRange 14 = .ok (.ireturn, 1) := by decide +kernel
theorem dL_hiddenNumber_0 : decode cL_hiddenNumber 0 = .ok (.aload_n 1, 1) := by decide +kernel
theorem dL_hiddenNumber_1 : decode cL_hiddenNumber 1 = .ok (.iconst 0, 1) := by decide +kernel
theorem dL_hiddenNumber_2 : decode cL_hiddenNumber 2 = .ok (.aload_n 0, 1) := by decide +kernel
theorem dL_hiddenNumber_3 : decode cL_hiddenNumber 3 = .ok (.invokevirtual 99, 3) := by decide +kernel
theorem dL_hiddenNumber_11 : decode cL_hiddenNumber 11 = .ok (.astore_n 2, 1) := by decide +kernel
theorem dL_hiddenNumber_12 : decode cL_hiddenNumber 12 = .ok (.iconst 1, 1) := by decide +kernel
theorem dL_hiddenNumber_13 : decode cL_hiddenNumber 13 = .ok (.ireturn, 1) := by decide +kernel
theorem dL_insertVertex_0 : decode cL_insertVertex 0 = .ok (.aload 4, 2) := by decide +kernel
theorem dL_insertVertex_2 : decode cL_insertVertex 2 = .ok (.iconst 0, 1) := by decide +kernel
theorem dL_insertVertex_3 : decode cL_insertVertex 3 = .ok (.aload_n 0, 1) := by decide +kernel
theorem dL_insertVertex_4 : decode cL_insertVertex 4 = .ok (.iload_n 1, 1) := by decide +kernel
theorem dL_insertVertex_5 : decode cL_insertVertex 5 = .ok (.iload_n 2, 1) := by decide +kernel
theorem dL_insertVertex_6 : decode cL_insertVertex 6 = .ok (.iload_n 3, 1) := by decide +kernel
theorem dL_insertVertex_7 : decode cL_insertVertex 7 = .ok (.invokevirtual 157, 3) := by decide +kernel
theorem dL_insertVertex_15 : decode cL_insertVertex 15 = .ok (.astore 5, 2) := by decide +kernel
theorem dL_insertVertex_17 : decode cL_insertVertex 17 = .ok (.iconst 1, 1) := by decide +kernel
theorem dL_insertVertex_18 : decode cL_insertVertex 18 = .ok (.ireturn, 1) := by decide +kernel
theorem dL_kernel_0 : decode cL_kernel 0 = .ok (.aload_n 1, 1) := by decide +kernel
theorem dL_kernel_1 : decode cL_kernel 1 = .ok (.iconst 0, 1) := by decide +kernel
theorem dL_kernel_2 : decode cL_kernel 2 = .ok (.aload_n 0, 1) := by decide +kernel
theorem dL_kernel_3 : decode cL_kernel 3 = .ok (.invokevirtual 54, 3) := by decide +kernel
theorem dL_kernel_10 : decode cL_kernel 10 = .ok (.astore_n 2, 1) := by decide +kernel
theorem dL_kernel_11 : decode cL_kernel 11 = .ok (.iconst 1, 1) := by decide +kernel
theorem dL_kernel_12 : decode cL_kernel 12 = .ok (.ireturn, 1) := by decide +kernel
theorem dL_linkDistance_0 : decode cL_linkDistance 0 = .ok (.aload_n 3, 1) := by decide +kernel
theorem dL_linkDistance_1 : decode cL_linkDistance 1 = .ok (.iconst 0, 1) := by decide +kernel
theorem dL_linkDistance_2 : decode cL_linkDistance 2 = .ok (.aload_n 0, 1) := by decide +kernel
theorem dL_linkDistance_3 : decode cL_linkDistance 3 = .ok (.iload_n 1, 1) := by decide +kernel
theorem dL_linkDistance_4 : decode cL_linkDistance 4 = .ok (.iload_n 2, 1) := by decide +kernel
theorem dL_linkDistance_5 : decode cL_linkDistance 5 = .ok (.invokevirtual 57, 3) := by decide +kernel
theorem dL_linkDistance_13 : decode cL_linkDistance 13 = .ok (.astore 4, 2) := by decide +kernel
theorem dL_linkDistance_15 : decode cL_linkDistance 15 = .ok (.iconst 1, 1) := by decide +kernel
theorem dL_linkDistance_16 : decode cL_linkDistance 16 = .ok (.ireturn, 1) := by decide +kernel
theorem dL_moveGuard_0 : decode cL_moveGuard 0 = .ok (.aload_n 3, 1) := by decide +kernel
theorem dL_moveGuard_1 : decode cL_moveGuard 1 = .ok (.iconst 0, 1) := by decide +kernel
theorem dL_moveGuard_2 : decode cL_moveGuard 2 = .ok (.aload_n 0, 1) := by decide +kernel
theorem dL_moveGuard_3 : decode cL_moveGuard 3 = .ok (.iload_n 1, 1) := by decide +kernel
theorem dL_moveGuard_4 : decode cL_moveGuard 4 = .ok (.iload_n 2, 1) := by decide +kernel
theorem dL_moveGuard_5 : decode cL_moveGuard 5 = .ok (.invokevirtual 147, 3) := by decide +kernel
theorem dL_moveGuard_13 : decode cL_moveGuard 13 = .ok (.astore 4, 2) := by decide +kernel
theorem dL_moveGuard_15 : decode cL_moveGuard 15 = .ok (.iconst 1, 1) := by decide +kernel
theorem dL_moveGuard_16 : decode cL_moveGuard 16 = .ok (.ireturn, 1) := by decide +kernel
theorem dL_moveVertex_0 : decode cL_moveVertex 0 = .ok (.aload 4, 2) := by decide +kernel
theorem dL_moveVertex_2 : decode cL_moveVertex 2 = .ok (.iconst 0, 1) := by decide +kernel
theorem dL_moveVertex_3 : decode cL_moveVertex 3 = .ok (.aload_n 0, 1) := by decide +kernel
theorem dL_moveVertex_4 : decode cL_moveVertex 4 = .ok (.iload_n 1, 1) := by decide +kernel
theorem dL_moveVertex_5 : decode cL_moveVertex 5 = .ok (.iload_n 2, 1) := by decide +kernel
theorem dL_moveVertex_6 : decode cL_moveVertex 6 = .ok (.iload_n 3, 1) := by decide +kernel
theorem dL_moveVertex_7 : decode cL_moveVertex 7 = .ok (.invokevirtual 153, 3) := by decide +kernel
theorem dL_moveVertex_15 : decode cL_moveVertex 15 = .ok (.astore 5, 2) := by decide +kernel
theorem dL_moveVertex_17 : decode cL_moveVertex 17 = .ok (.iconst 1, 1) := by decide +kernel
theorem dL_moveVertex_18 : decode cL_moveVertex 18 = .ok (.ireturn, 1) := by decide +kernel
theorem dL_pointAt_0 : decode cL_pointAt 0 = .ok (.aload_n 3, 1) := by decide +kernel
theorem dL_pointAt_1 : decode cL_pointAt 1 = .ok (.iconst 0, 1) := by decide +kernel
theorem dL_pointAt_2 : decode cL_pointAt 2 = .ok (.aload_n 0, 1) := by decide +kernel
theorem dL_pointAt_3 : decode cL_pointAt 3 = .ok (.iload_n 1, 1) := by decide +kernel
theorem dL_pointAt_4 : decode cL_pointAt 4 = .ok (.iload_n 2, 1) := by decide +kernel
theorem dL_pointAt_5 : decode cL_pointAt 5 = .ok (.invokevirtual 38, 3) := by decide +kernel
theorem dL_pointAt_13 : decode cL_pointAt 13 = .ok (.astore 4, 2) := by decide +kernel
theorem dL_pointAt_15 : decode cL_pointAt 15 = .ok (.iconst 1, 1) := by decide +kernel
theorem dL_pointAt_16 : decode cL_pointAt 16 = .ok (.ireturn, 1) := by decide +kernel
theorem dL_pointX_0 : decode cL_pointX 0 = .ok (.aload_n 2, 1) := by decide +kernel
theorem dL_pointX_1 : decode cL_pointX 1 = .ok (.iconst 0, 1) := by decide +kernel
theorem dL_pointX_2 : decode cL_pointX 2 = .ok (.aload_n 0, 1) := by decide +kernel
theorem dL_pointX_3 : decode cL_pointX 3 = .ok (.iload_n 1, 1) := by decide +kernel
theorem dL_pointX_4 : decode cL_pointX 4 = .ok (.invokevirtual 32, 3) := by decide +kernel
theorem dL_pointX_12 : decode cL_pointX 12 = .ok (.astore_n 3, 1) := by decide +kernel
theorem dL_pointX_13 : decode cL_pointX 13 = .ok (.iconst 1, 1) := by decide +kernel
theorem dL_pointX_14 : decode cL_pointX 14 = .ok (.ireturn, 1) := by decide +kernel
theorem dL_pointY_0 : decode cL_pointY 0 = .ok (.aload_n 2, 1) := by decide +kernel
theorem dL_pointY_1 : decode cL_pointY 1 = .ok (.iconst 0, 1) := by decide +kernel
theorem dL_pointY_2 : decode cL_pointY 2 = .ok (.aload_n 0, 1) := by decide +kernel
theorem dL_pointY_3 : decode cL_pointY 3 = .ok (.iload_n 1, 1) := by decide +kernel
theorem dL_pointY_4 : decode cL_pointY 4 = .ok (.invokevirtual 35, 3) := by decide +kernel
theorem dL_pointY_12 : decode cL_pointY 12 = .ok (.astore_n 3, 1) := by decide +kernel
theorem dL_pointY_13 : decode cL_pointY 13 = .ok (.iconst 1, 1) := by decide +kernel
theorem dL_pointY_14 : decode cL_pointY 14 = .ok (.ireturn, 1) := by decide +kernel
theorem dL_redundantGuards_0 : decode cL_redundantGuards 0 = .ok (.aload_n 1, 1) := by decide +kernel
theorem dL_redundantGuards_1 : decode cL_redundantGuards 1 = .ok (.iconst 0, 1) := by decide +kernel
theorem dL_redundantGuards_2 : decode cL_redundantGuards 2 = .ok (.aload_n 0, 1) := by decide +kernel
theorem dL_redundantGuards_3 : decode cL_redundantGuards 3 = .ok (.invokevirtual 117, 3) := by decide +kernel
theorem dL_redundantGuards_11 : decode cL_redundantGuards 11 = .ok (.astore_n 2, 1) := by decide +kernel
theorem dL_redundantGuards_12 : decode cL_redundantGuards 12 = .ok (.iconst 1, 1) := by decide +kernel
theorem dL_redundantGuards_13 : decode cL_redundantGuards 13 = .ok (.ireturn, 1) := by decide +kernel
theorem dL_reflexVertices_0 : decode cL_reflexVertices 0 = .ok (.aload_n 1, 1) := by decide +kernel
theorem dL_reflexVertices_1 : decode cL_reflexVertices 1 = .ok (.iconst 0, 1) := by decide +kernel
theorem dL_reflexVertices_2 : decode cL_reflexVertices 2 = .ok (.aload_n 0, 1) := by decide +kernel
theorem dL_reflexVertices_3 : decode cL_reflexVertices 3 = .ok (.invokevirtual 29, 3) := by decide +kernel
theorem dL_reflexVertices_11 : decode cL_reflexVertices 11 = .ok (.astore_n 2, 1) := by decide +kernel
theorem dL_reflexVertices_12 : decode cL_reflexVertices 12 = .ok (.iconst 1, 1) := by decide +kernel
theorem dL_reflexVertices_13 : decode cL_reflexVertices 13 = .ok (.ireturn, 1) := by decide +kernel
theorem dL_removeGuard_0 : decode cL_removeGuard 0 = .ok (.aload_n 2, 1) := by decide +kernel
theorem dL_removeGuard_1 : decode cL_removeGuard 1 = .ok (.iconst 0, 1) := by decide +kernel
theorem dL_removeGuard_2 : decode cL_removeGuard 2 = .ok (.aload_n 0, 1) := by decide +kernel
theorem dL_removeGuard_3 : decode cL_removeGuard 3 = .ok (.iload_n 1, 1) := by decide +kernel
theorem dL_removeGuard_4 : decode cL_removeGuard 4 = .ok (.invokevirtual 144, 3) := by decide +kernel
theorem dL_removeGuard_12 : decode cL_removeGuard 12 = .ok (.astore_n 3, 1) := by decide +kernel
theorem dL_removeGuard_13 : decode cL_removeGuard 13 = .ok (.iconst 1, 1) := by decide +kernel
theorem dL_removeGuard_14 : decode cL_removeGuard 14 = .ok (.ireturn, 1) := by decide +kernel
theorem dL_save_0 : decode cL_save 0 = .ok (.aload_n 2, 1) := by decide +kernel
theorem dL_save_1 : decode cL_save 1 = .ok (.iconst 0, 1) := by decide +kernel
theorem dL_save_2 : decode cL_save 2 = .ok (.aload_n 0, 1) := by decide +kernel
theorem dL_save_3 : decode cL_save 3 = .ok (.iload_n 1, 1) := by decide +kernel
theorem dL_save_4 : decode cL_save 4 = .ok (.invokevirtual 166, 3) := by decide +kernel
theorem dL_save_12 : decode cL_save 12 = .ok (.astore_n 3, 1) := by decide +kernel
theorem dL_save_13 : decode cL_save 13 = .ok (.iconst 1, 1) := by decide +kernel
theorem dL_save_14 : decode cL_save 14 = .ok (.ireturn, 1) := by decide +kernel
theorem dL_seenFromEdge_0 : decode cL_seenFromEdge 0 = .ok (.aload_n 2, 1) := by decide +kernel
theorem dL_seenFromEdge_1 : decode cL_seenFromEdge 1 = .ok (.iconst 0, 1) := by decide +kernel
theorem dL_seenFromEdge_2 : decode cL_seenFromEdge 2 = .ok (.aload_n 0, 1) := by decide +kernel
theorem dL_seenFromEdge_3 : decode cL_seenFromEdge 3 = .ok (.iload_n 1, 1) := by decide +kernel
theorem dL_seenFromEdge_4 : decode cL_seenFromEdge 4 = .ok (.invokevirtual 66, 3) := by decide +kernel
theorem dL_seenFromEdge_11 : decode cL_seenFromEdge 11 = .ok (.astore_n 3, 1) := by decide +kernel
theorem dL_seenFromEdge_12 : decode cL_seenFromEdge 12 = .ok (.iconst 1, 1) := by decide +kernel
theorem dL_seenFromEdge_13 : decode cL_seenFromEdge 13 = .ok (.ireturn, 1) := by decide +kernel
theorem dL_sees_0 : decode cL_sees 0 = .ok (.aload_n 3, 1) := by decide +kernel
theorem dL_sees_1 : decode cL_sees 1 = .ok (.iconst 0, 1) := by decide +kernel
theorem dL_sees_2 : decode cL_sees 2 = .ok (.aload_n 0, 1) := by decide +kernel
theorem dL_sees_3 : decode cL_sees 3 = .ok (.iload_n 1, 1) := by decide +kernel
theorem dL_sees_4 : decode cL_sees 4 = .ok (.iload_n 2, 1) := by decide +kernel
theorem dL_sees_5 : decode cL_sees 5 = .ok (.invokevirtual 46, 3) := by decide +kernel
theorem dL_sees_20 : decode cL_sees 20 = .ok (.astore 4, 2) := by decide +kernel
theorem dL_sees_22 : decode cL_sees 22 = .ok (.iconst 1, 1) := by decide +kernel
theorem dL_sees_23 : decode cL_sees 23 = .ok (.ireturn, 1) := by decide +kernel
theorem dL_setRange_0 : decode cL_setRange 0 = .ok (.aload_n 3, 1) := by decide +kernel
theorem dL_setRange_1 : decode cL_setRange 1 = .ok (.iconst 0, 1) := by decide +kernel
theorem dL_setRange_2 : decode cL_setRange 2 = .ok (.aload_n 0, 1) := by decide +kernel
theorem dL_setRange_3 : decode cL_setRange 3 = .ok (.iload_n 1, 1) := by decide +kernel
theorem dL_setRange_4 : decode cL_setRange 4 = .ok (.iload_n 2, 1) := by decide +kernel
theorem dL_setRange_5 : decode cL_setRange 5 = .ok (.invokevirtual 150, 3) := by decide +kernel
theorem dL_setRange_13 : decode cL_setRange 13 = .ok (.astore 4, 2) := by decide +kernel
theorem dL_setRange_15 : decode cL_setRange 15 = .ok (.iconst 1, 1) := by decide +kernel
theorem dL_setRange_16 : decode cL_setRange 16 = .ok (.ireturn, 1) := by decide +kernel
theorem dL_treasureAt_0 : decode cL_treasureAt 0 = .ok (.aload_n 2, 1) := by decide +kernel
theorem dL_treasureAt_1 : decode cL_treasureAt 1 = .ok (.iconst 0, 1) := by decide +kernel
theorem dL_treasureAt_2 : decode cL_treasureAt 2 = .ok (.aload_n 0, 1) := by decide +kernel
theorem dL_treasureAt_3 : decode cL_treasureAt 3 = .ok (.iload_n 1, 1) := by decide +kernel
theorem dL_treasureAt_4 : decode cL_treasureAt 4 = .ok (.invokevirtual 126, 3) := by decide +kernel
theorem dL_treasureAt_12 : decode cL_treasureAt 12 = .ok (.astore_n 3, 1) := by decide +kernel
theorem dL_treasureAt_13 : decode cL_treasureAt 13 = .ok (.iconst 1, 1) := by decide +kernel
theorem dL_treasureAt_14 : decode cL_treasureAt 14 = .ok (.ireturn, 1) := by decide +kernel
theorem dL_triangleArea_0 : decode cL_triangleArea 0 = .ok (.aload_n 2, 1) := by decide +kernel
theorem dL_triangleArea_1 : decode cL_triangleArea 1 = .ok (.iconst 0, 1) := by decide +kernel
theorem dL_triangleArea_2 : decode cL_triangleArea 2 = .ok (.aload_n 0, 1) := by decide +kernel
theorem dL_triangleArea_3 : decode cL_triangleArea 3 = .ok (.iload_n 1, 1) := by decide +kernel
theorem dL_triangleArea_4 : decode cL_triangleArea 4 = .ok (.invokevirtual 72, 3) := by decide +kernel
theorem dL_triangleArea_12 : decode cL_triangleArea 12 = .ok (.astore_n 3, 1) := by decide +kernel
theorem dL_triangleArea_13 : decode cL_triangleArea 13 = .ok (.iconst 1, 1) := by decide +kernel
theorem dL_triangleArea_14 : decode cL_triangleArea 14 = .ok (.ireturn, 1) := by decide +kernel
theorem dL_triangleVertex_0 : decode cL_triangleVertex 0 = .ok (.aload_n 3, 1) := by decide +kernel
theorem dL_triangleVertex_1 : decode cL_triangleVertex 1 = .ok (.iconst 0, 1) := by decide +kernel
theorem dL_triangleVertex_2 : decode cL_triangleVertex 2 = .ok (.aload_n 0, 1) := by decide +kernel
theorem dL_triangleVertex_3 : decode cL_triangleVertex 3 = .ok (.iload_n 1, 1) := by decide +kernel
theorem dL_triangleVertex_4 : decode cL_triangleVertex 4 = .ok (.iload_n 2, 1) := by decide +kernel
theorem dL_triangleVertex_5 : decode cL_triangleVertex 5 = .ok (.invokevirtual 69, 3) := by decide +kernel
theorem dL_triangleVertex_13 : decode cL_triangleVertex 13 = .ok (.astore 4, 2) := by decide +kernel
theorem dL_triangleVertex_15 : decode cL_triangleVertex 15 = .ok (.iconst 1, 1) := by decide +kernel
theorem dL_triangleVertex_16 : decode cL_triangleVertex 16 = .ok (.ireturn, 1) := by decide +kernel
theorem dL_unwatched_0 : decode cL_unwatched 0 = .ok (.aload_n 1, 1) := by decide +kernel
theorem dL_unwatched_1 : decode cL_unwatched 1 = .ok (.iconst 0, 1) := by decide +kernel
theorem dL_unwatched_2 : decode cL_unwatched 2 = .ok (.aload_n 0, 1) := by decide +kernel
theorem dL_unwatched_3 : decode cL_unwatched 3 = .ok (.invokevirtual 111, 3) := by decide +kernel
theorem dL_unwatched_10 : decode cL_unwatched 10 = .ok (.astore_n 2, 1) := by decide +kernel
theorem dL_unwatched_11 : decode cL_unwatched 11 = .ok (.iconst 1, 1) := by decide +kernel
theorem dL_unwatched_12 : decode cL_unwatched 12 = .ok (.ireturn, 1) := by decide +kernel
theorem dL_vertexGuards_0 : decode cL_vertexGuards 0 = .ok (.aload_n 1, 1) := by decide +kernel
theorem dL_vertexGuards_1 : decode cL_vertexGuards 1 = .ok (.iconst 0, 1) := by decide +kernel
theorem dL_vertexGuards_2 : decode cL_vertexGuards 2 = .ok (.aload_n 0, 1) := by decide +kernel
theorem dL_vertexGuards_3 : decode cL_vertexGuards 3 = .ok (.invokevirtual 81, 3) := by decide +kernel
theorem dL_vertexGuards_11 : decode cL_vertexGuards 11 = .ok (.astore_n 2, 1) := by decide +kernel
theorem dL_vertexGuards_12 : decode cL_vertexGuards 12 = .ok (.iconst 1, 1) := by decide +kernel
theorem dL_vertexGuards_13 : decode cL_vertexGuards 13 = .ok (.ireturn, 1) := by decide +kernel
theorem dL_vertexX_0 : decode cL_vertexX 0 = .ok (.aload_n 2, 1) := by decide +kernel
theorem dL_vertexX_1 : decode cL_vertexX 1 = .ok (.iconst 0, 1) := by decide +kernel
theorem dL_vertexX_2 : decode cL_vertexX 2 = .ok (.aload_n 0, 1) := by decide +kernel
theorem dL_vertexX_3 : decode cL_vertexX 3 = .ok (.iload_n 1, 1) := by decide +kernel
theorem dL_vertexX_4 : decode cL_vertexX 4 = .ok (.invokevirtual 17, 3) := by decide +kernel
theorem dL_vertexX_12 : decode cL_vertexX 12 = .ok (.astore_n 3, 1) := by decide +kernel
theorem dL_vertexX_13 : decode cL_vertexX 13 = .ok (.iconst 1, 1) := by decide +kernel
theorem dL_vertexX_14 : decode cL_vertexX 14 = .ok (.ireturn, 1) := by decide +kernel
theorem dL_vertexY_0 : decode cL_vertexY 0 = .ok (.aload_n 2, 1) := by decide +kernel
theorem dL_vertexY_1 : decode cL_vertexY 1 = .ok (.iconst 0, 1) := by decide +kernel
theorem dL_vertexY_2 : decode cL_vertexY 2 = .ok (.aload_n 0, 1) := by decide +kernel
theorem dL_vertexY_3 : decode cL_vertexY 3 = .ok (.iload_n 1, 1) := by decide +kernel
theorem dL_vertexY_4 : decode cL_vertexY 4 = .ok (.invokevirtual 22, 3) := by decide +kernel
theorem dL_vertexY_12 : decode cL_vertexY 12 = .ok (.astore_n 3, 1) := by decide +kernel
theorem dL_vertexY_13 : decode cL_vertexY 13 = .ok (.iconst 1, 1) := by decide +kernel
theorem dL_vertexY_14 : decode cL_vertexY 14 = .ok (.ireturn, 1) := by decide +kernel
theorem dL_visible_0 : decode cL_visible 0 = .ok (.aload_n 2, 1) := by decide +kernel
theorem dL_visible_1 : decode cL_visible 1 = .ok (.iconst 0, 1) := by decide +kernel
theorem dL_visible_2 : decode cL_visible 2 = .ok (.aload_n 0, 1) := by decide +kernel
theorem dL_visible_3 : decode cL_visible 3 = .ok (.iload_n 1, 1) := by decide +kernel
theorem dL_visible_4 : decode cL_visible 4 = .ok (.invokevirtual 50, 3) := by decide +kernel
theorem dL_visible_11 : decode cL_visible 11 = .ok (.astore_n 3, 1) := by decide +kernel
theorem dL_visible_12 : decode cL_visible 12 = .ok (.iconst 1, 1) := by decide +kernel
theorem dL_visible_13 : decode cL_visible 13 = .ok (.ireturn, 1) := by decide +kernel
theorem dL_watched_0 : decode cL_watched 0 = .ok (.aload_n 2, 1) := by decide +kernel
theorem dL_watched_1 : decode cL_watched 1 = .ok (.iconst 0, 1) := by decide +kernel
theorem dL_watched_2 : decode cL_watched 2 = .ok (.aload_n 0, 1) := by decide +kernel
theorem dL_watched_3 : decode cL_watched 3 = .ok (.iload_n 1, 1) := by decide +kernel
theorem dL_watched_4 : decode cL_watched 4 = .ok (.invokevirtual 108, 3) := by decide +kernel
theorem dL_watched_11 : decode cL_watched 11 = .ok (.astore_n 3, 1) := by decide +kernel
theorem dL_watched_12 : decode cL_watched 12 = .ok (.iconst 1, 1) := by decide +kernel
theorem dL_watched_13 : decode cL_watched 13 = .ok (.ireturn, 1) := by decide +kernel
theorem dL_watchedValue_0 : decode cL_watchedValue 0 = .ok (.aload_n 1, 1) := by decide +kernel
theorem dL_watchedValue_1 : decode cL_watchedValue 1 = .ok (.iconst 0, 1) := by decide +kernel
theorem dL_watchedValue_2 : decode cL_watchedValue 2 = .ok (.aload_n 0, 1) := by decide +kernel
theorem dL_watchedValue_3 : decode cL_watchedValue 3 = .ok (.invokevirtual 129, 3) := by decide +kernel
theorem dL_watchedValue_11 : decode cL_watchedValue 11 = .ok (.astore_n 2, 1) := by decide +kernel
theorem dL_watchedValue_12 : decode cL_watchedValue 12 = .ok (.iconst 1, 1) := by decide +kernel
theorem dL_watchedValue_13 : decode cL_watchedValue 13 = .ok (.ireturn, 1) := by decide +kernel
theorem dL_watchers_0 : decode cL_watchers 0 = .ok (.aload_n 2, 1) := by decide +kernel
theorem dL_watchers_1 : decode cL_watchers 1 = .ok (.iconst 0, 1) := by decide +kernel
theorem dL_watchers_2 : decode cL_watchers 2 = .ok (.aload_n 0, 1) := by decide +kernel
theorem dL_watchers_3 : decode cL_watchers 3 = .ok (.iload_n 1, 1) := by decide +kernel
theorem dL_watchers_4 : decode cL_watchers 4 = .ok (.invokevirtual 114, 3) := by decide +kernel
theorem dL_watchers_12 : decode cL_watchers 12 = .ok (.astore_n 3, 1) := by decide +kernel
theorem dL_watchers_13 : decode cL_watchers 13 = .ok (.iconst 1, 1) := by decide +kernel
theorem dL_watchers_14 : decode cL_watchers 14 = .ok (.ireturn, 1) := by decide +kernel
theorem dL_witness_0 : decode cL_witness 0 = .ok (.aload_n 2, 1) := by decide +kernel
theorem dL_witness_1 : decode cL_witness 1 = .ok (.iconst 0, 1) := by decide +kernel
theorem dL_witness_2 : decode cL_witness 2 = .ok (.aload_n 0, 1) := by decide +kernel
theorem dL_witness_3 : decode cL_witness 3 = .ok (.iload_n 1, 1) := by decide +kernel
theorem dL_witness_4 : decode cL_witness 4 = .ok (.invokevirtual 96, 3) := by decide +kernel
theorem dL_witness_12 : decode cL_witness 12 = .ok (.astore_n 3, 1) := by decide +kernel
theorem dL_witness_13 : decode cL_witness 13 = .ok (.iconst 1, 1) := by decide +kernel
theorem dL_witness_14 : decode cL_witness 14 = .ok (.ireturn, 1) := by decide +kernel
theorem dL_witnessNumber_0 : decode cL_witnessNumber 0 = .ok (.aload_n 1, 1) := by decide +kernel
theorem dL_witnessNumber_1 : decode cL_witnessNumber 1 = .ok (.iconst 0, 1) := by decide +kernel
theorem dL_witnessNumber_2 : decode cL_witnessNumber 2 = .ok (.aload_n 0, 1) := by decide +kernel
theorem dL_witnessNumber_3 : decode cL_witnessNumber 3 = .ok (.invokevirtual 93, 3) := by decide +kernel
theorem dL_witnessNumber_11 : decode cL_witnessNumber 11 = .ok (.astore_n 2, 1) := by decide +kernel
theorem dL_witnessNumber_12 : decode cL_witnessNumber 12 = .ok (.iconst 1, 1) := by decide +kernel
theorem dL_witnessNumber_13 : decode cL_witnessNumber 13 = .ok (.ireturn, 1) := by decide +kernel
theorem dX11_addGuard_0 : decode cX11_addGuard 0 = .ok (.aload_n 0, 1) := by decide +kernel
theorem dX11_addGuard_1 : decode cX11_addGuard 1 = .ok (.invokevirtual 155, 3) := by decide +kernel
theorem dX11_bestPoint_0 : decode cX11_bestPoint 0 = .ok (.aload_n 0, 1) := by decide +kernel
theorem dX11_bestPoint_1 : decode cX11_bestPoint 1 = .ok (.invokevirtual 155, 3) := by decide +kernel
theorem dX11_bestValue_0 : decode cX11_bestValue 0 = .ok (.aload_n 0, 1) := by decide +kernel
theorem dX11_bestValue_1 : decode cX11_bestValue 1 = .ok (.invokevirtual 155, 3) := by decide +kernel
theorem dX11_boundary_0 : decode cX11_boundary 0 = .ok (.aload_n 0, 1) := by decide +kernel
theorem dX11_boundary_1 : decode cX11_boundary 1 = .ok (.invokevirtual 155, 3) := by decide +kernel
theorem dX11_colour_0 : decode cX11_colour 0 = .ok (.aload_n 0, 1) := by decide +kernel
theorem dX11_colour_1 : decode cX11_colour 1 = .ok (.invokevirtual 155, 3) := by decide +kernel
theorem dX11_colourGuards_0 : decode cX11_colourGuards 0 = .ok (.aload_n 0, 1) := by decide +kernel
theorem dX11_colourGuards_1 : decode cX11_colourGuards 1 = .ok (.invokevirtual 155, 3) := by decide +kernel
theorem dX11_deleteVertex_0 : decode cX11_deleteVertex 0 = .ok (.aload_n 0, 1) := by decide +kernel
theorem dX11_deleteVertex_1 : decode cX11_deleteVertex 1 = .ok (.invokevirtual 155, 3) := by decide +kernel
theorem dX11_diameter_0 : decode cX11_diameter 0 = .ok (.aload_n 0, 1) := by decide +kernel
theorem dX11_diameter_1 : decode cX11_diameter 1 = .ok (.invokevirtual 155, 3) := by decide +kernel
theorem dX11_doubleArea_0 : decode cX11_doubleArea 0 = .ok (.aload_n 0, 1) := by decide +kernel
theorem dX11_doubleArea_1 : decode cX11_doubleArea 1 = .ok (.invokevirtual 155, 3) := by decide +kernel
theorem dX11_draw_0 : decode cX11_draw 0 = .ok (.aload_n 0, 1) := by decide +kernel
theorem dX11_draw_1 : decode cX11_draw 1 = .ok (.invokevirtual 155, 3) := by decide +kernel
theorem dX11_edgeGuards_0 : decode cX11_edgeGuards 0 = .ok (.aload_n 0, 1) := by decide +kernel
theorem dX11_edgeGuards_1 : decode cX11_edgeGuards 1 = .ok (.invokevirtual 155, 3) := by decide +kernel
theorem dX11_farthest_0 : decode cX11_farthest 0 = .ok (.aload_n 0, 1) := by decide +kernel
theorem dX11_farthest_1 : decode cX11_farthest 1 = .ok (.invokevirtual 155, 3) := by decide +kernel
theorem dX11_greedyGuards_0 : decode cX11_greedyGuards 0 = .ok (.aload_n 0, 1) := by decide +kernel
theorem dX11_greedyGuards_1 : decode cX11_greedyGuards 1 = .ok (.invokevirtual 155, 3) := by decide +kernel
theorem dX11_guardAt_0 : decode cX11_guardAt 0 = .ok (.aload_n 0, 1) := by decide +kernel
theorem dX11_guardAt_1 : decode cX11_guardAt 1 = .ok (.invokevirtual 155, 3) := by decide +kernel
theorem dX11_guardNumber_0 : decode cX11_guardNumber 0 = .ok (.aload_n 0, 1) := by decide +kernel
theorem dX11_guardNumber_1 : decode cX11_guardNumber 1 = .ok (.invokevirtual 155, 3) := by decide +kernel
theorem dX11_guardPoint_0 : decode cX11_guardPoint 0 = .ok (.aload_n 0, 1) := by decide +kernel
theorem dX11_guardPoint_1 : decode cX11_guardPoint 1 = .ok (.invokevirtual 155, 3) := by decide +kernel
theorem dX11_guardRange_0 : decode cX11_guardRange 0 = .ok (.aload_n 0, 1) := by decide +kernel
theorem dX11_guardRange_1 : decode cX11_guardRange 1 = .ok (.invokevirtual 155, 3) := by decide +kernel
theorem dX11_hiddenNumber_0 : decode cX11_hiddenNumber 0 = .ok (.aload_n 0, 1) := by decide +kernel
theorem dX11_hiddenNumber_1 : decode cX11_hiddenNumber 1 = .ok (.invokevirtual 155, 3) := by decide +kernel
theorem dX11_insertVertex_0 : decode cX11_insertVertex 0 = .ok (.aload_n 0, 1) := by decide +kernel
theorem dX11_insertVertex_1 : decode cX11_insertVertex 1 = .ok (.invokevirtual 155, 3) := by decide +kernel
theorem dX11_kernel_0 : decode cX11_kernel 0 = .ok (.aload_n 0, 1) := by decide +kernel
theorem dX11_kernel_1 : decode cX11_kernel 1 = .ok (.invokevirtual 155, 3) := by decide +kernel
theorem dX11_linkDistance_0 : decode cX11_linkDistance 0 = .ok (.aload_n 0, 1) := by decide +kernel
theorem dX11_linkDistance_1 : decode cX11_linkDistance 1 = .ok (.invokevirtual 155, 3) := by decide +kernel
theorem dX11_moveGuard_0 : decode cX11_moveGuard 0 = .ok (.aload_n 0, 1) := by decide +kernel
theorem dX11_moveGuard_1 : decode cX11_moveGuard 1 = .ok (.invokevirtual 155, 3) := by decide +kernel
theorem dX11_moveVertex_0 : decode cX11_moveVertex 0 = .ok (.aload_n 0, 1) := by decide +kernel
theorem dX11_moveVertex_1 : decode cX11_moveVertex 1 = .ok (.invokevirtual 155, 3) := by decide +kernel
theorem dX11_needPolygon_0 : decode cX11_needPolygon 0 = .ok (.aload_n 0, 1) := by decide +kernel
theorem dX11_needPolygon_1 : decode cX11_needPolygon 1 = .ok (.getfield 19, 3) := by decide +kernel
theorem dX11_needPolygon_4 : decode cX11_needPolygon 4 = .ok (.getfield 152, 3) := by decide +kernel
theorem dX11_needPolygon_7 : decode cX11_needPolygon 7 = .ok (.ifCond .ne 14, 3) := by decide +kernel
theorem dX11_needPolygon_10 : decode cX11_needPolygon 10 = .ok (.new 311, 3) := by decide +kernel
theorem dX11_needPolygon_13 : decode cX11_needPolygon 13 = .ok (.dup, 1) := by decide +kernel
theorem dX11_needPolygon_14 : decode cX11_needPolygon 14 = .ok (.ldc_w 360, 3) := by decide +kernel
theorem dX11_needPolygon_17 : decode cX11_needPolygon 17 = .ok (.invokespecial 315, 3) := by decide +kernel
theorem dX11_needPolygon_20 : decode cX11_needPolygon 20 = .ok (.athrow, 1) := by decide +kernel
theorem dX11_pointAt_0 : decode cX11_pointAt 0 = .ok (.aload_n 0, 1) := by decide +kernel
theorem dX11_pointAt_1 : decode cX11_pointAt 1 = .ok (.invokevirtual 155, 3) := by decide +kernel
theorem dX11_pointX_0 : decode cX11_pointX 0 = .ok (.aload_n 0, 1) := by decide +kernel
theorem dX11_pointX_1 : decode cX11_pointX 1 = .ok (.invokevirtual 155, 3) := by decide +kernel
theorem dX11_pointY_0 : decode cX11_pointY 0 = .ok (.aload_n 0, 1) := by decide +kernel
theorem dX11_pointY_1 : decode cX11_pointY 1 = .ok (.invokevirtual 155, 3) := by decide +kernel
theorem dX11_redundantGuards_0 : decode cX11_redundantGuards 0 = .ok (.aload_n 0, 1) := by decide +kernel
theorem dX11_redundantGuards_1 : decode cX11_redundantGuards 1 = .ok (.invokevirtual 155, 3) := by decide +kernel
theorem dX11_reflexVertices_0 : decode cX11_reflexVertices 0 = .ok (.aload_n 0, 1) := by decide +kernel
theorem dX11_reflexVertices_1 : decode cX11_reflexVertices 1 = .ok (.invokevirtual 155, 3) := by decide +kernel
theorem dX11_removeGuard_0 : decode cX11_removeGuard 0 = .ok (.aload_n 0, 1) := by decide +kernel
theorem dX11_removeGuard_1 : decode cX11_removeGuard 1 = .ok (.invokevirtual 155, 3) := by decide +kernel
theorem dX11_save_0 : decode cX11_save 0 = .ok (.aload_n 0, 1) := by decide +kernel
theorem dX11_save_1 : decode cX11_save 1 = .ok (.invokevirtual 155, 3) := by decide +kernel
theorem dX11_seenFromEdge_0 : decode cX11_seenFromEdge 0 = .ok (.aload_n 0, 1) := by decide +kernel
theorem dX11_seenFromEdge_1 : decode cX11_seenFromEdge 1 = .ok (.invokevirtual 155, 3) := by decide +kernel
theorem dX11_sees_0 : decode cX11_sees 0 = .ok (.aload_n 0, 1) := by decide +kernel
theorem dX11_sees_1 : decode cX11_sees 1 = .ok (.invokevirtual 155, 3) := by decide +kernel
theorem dX11_setRange_0 : decode cX11_setRange 0 = .ok (.aload_n 0, 1) := by decide +kernel
theorem dX11_setRange_1 : decode cX11_setRange 1 = .ok (.invokevirtual 155, 3) := by decide +kernel
theorem dX11_treasureAt_0 : decode cX11_treasureAt 0 = .ok (.aload_n 0, 1) := by decide +kernel
theorem dX11_treasureAt_1 : decode cX11_treasureAt 1 = .ok (.invokevirtual 155, 3) := by decide +kernel
theorem dX11_triangleArea_0 : decode cX11_triangleArea 0 = .ok (.aload_n 0, 1) := by decide +kernel
theorem dX11_triangleArea_1 : decode cX11_triangleArea 1 = .ok (.invokevirtual 155, 3) := by decide +kernel
theorem dX11_triangleVertex_0 : decode cX11_triangleVertex 0 = .ok (.aload_n 0, 1) := by decide +kernel
theorem dX11_triangleVertex_1 : decode cX11_triangleVertex 1 = .ok (.invokevirtual 155, 3) := by decide +kernel
theorem dX11_unwatched_0 : decode cX11_unwatched 0 = .ok (.aload_n 0, 1) := by decide +kernel
theorem dX11_unwatched_1 : decode cX11_unwatched 1 = .ok (.invokevirtual 155, 3) := by decide +kernel
theorem dX11_vertexGuards_0 : decode cX11_vertexGuards 0 = .ok (.aload_n 0, 1) := by decide +kernel
theorem dX11_vertexGuards_1 : decode cX11_vertexGuards 1 = .ok (.invokevirtual 155, 3) := by decide +kernel
theorem dX11_vertexX_0 : decode cX11_vertexX 0 = .ok (.aload_n 0, 1) := by decide +kernel
theorem dX11_vertexX_1 : decode cX11_vertexX 1 = .ok (.invokevirtual 155, 3) := by decide +kernel
theorem dX11_vertexY_0 : decode cX11_vertexY 0 = .ok (.aload_n 0, 1) := by decide +kernel
theorem dX11_vertexY_1 : decode cX11_vertexY 1 = .ok (.invokevirtual 155, 3) := by decide +kernel
theorem dX11_visible_0 : decode cX11_visible 0 = .ok (.aload_n 0, 1) := by decide +kernel
theorem dX11_visible_1 : decode cX11_visible 1 = .ok (.invokevirtual 155, 3) := by decide +kernel
theorem dX11_watched_0 : decode cX11_watched 0 = .ok (.aload_n 0, 1) := by decide +kernel
theorem dX11_watched_1 : decode cX11_watched 1 = .ok (.invokevirtual 155, 3) := by decide +kernel
theorem dX11_watchedValue_0 : decode cX11_watchedValue 0 = .ok (.aload_n 0, 1) := by decide +kernel
theorem dX11_watchedValue_1 : decode cX11_watchedValue 1 = .ok (.invokevirtual 155, 3) := by decide +kernel
theorem dX11_watchers_0 : decode cX11_watchers 0 = .ok (.aload_n 0, 1) := by decide +kernel
theorem dX11_watchers_1 : decode cX11_watchers 1 = .ok (.invokevirtual 155, 3) := by decide +kernel
theorem dX11_witness_0 : decode cX11_witness 0 = .ok (.aload_n 0, 1) := by decide +kernel
theorem dX11_witness_1 : decode cX11_witness 1 = .ok (.invokevirtual 155, 3) := by decide +kernel
theorem dX11_witnessNumber_0 : decode cX11_witnessNumber 0 = .ok (.aload_n 0, 1) := by decide +kernel
theorem dX11_witnessNumber_1 : decode cX11_witnessNumber 1 = .ok (.invokevirtual 155, 3) := by decide +kernel
