def jma_0 : jx_H := ju_z jz0 11 0
def jma_1 : jx_H := ju_z jma_0 64 0
def jma_2 : jx_H := ju_M jma_1 11 0 (va_up (jh_M jma_1 11 0) 0 1)
def jma_3 : jx_H := ju_z jma_2 65 0
def jma_4 : jx_H := ju_M jma_3 11 0 (va_up (jh_M jma_3 11 0) 1 1)
def jma_5 : jx_H := ju_I jma_4 11 0 (upd (jh_I jma_4 11 0) 5 (-1))
def jma_6 : jx_H := ju_z jma_5 66 0
def jma_7 : jx_H := ju_M jma_6 11 0 (va_up (jh_M jma_6 11 0) 11 1)
def jma_8 : jx_H := ju_z jma_7 67 0
def jma_9 : jx_H := ju_M jma_8 11 0 (va_up (jh_M jma_8 11 0) 12 1)
def jma_10 : jx_H := ju_z jma_9 68 0
def jma_11 : jx_H := ju_M jma_10 11 0 (va_up (jh_M jma_10 11 0) 13 1)
def jma_12 : jx_H := ju_z jma_11 69 0
def jma_13 : jx_H := ju_M jma_12 11 0 (va_up (jh_M jma_12 11 0) 14 1)
def jma_14 : jx_H := ju_z jma_13 70 0
def jma_15 : jx_H := ju_M jma_14 11 0 (va_up (jh_M jma_14 11 0) 15 1)
def jma_16 : jx_H := ju_z jma_15 71 0
def jma_17 : jx_H := ju_M jma_16 11 0 (va_up (jh_M jma_16 11 0) 16 1)
def jma_18 : jx_H := ju_z jma_17 72 0
def jma_19 : jx_H := ju_M jma_18 11 0 (va_up (jh_M jma_18 11 0) 17 1)
def jma_20 : jx_H := ju_z jma_19 73 0
def jma_21 : jx_H := ju_M jma_20 11 0 (va_up (jh_M jma_20 11 0) 18 1)
def jma_22 : jx_H := ju_z jma_21 74 0
def jma_23 : jx_H := ju_M jma_22 11 0 (va_up (jh_M jma_22 11 0) 19 1)
def jma_24 : jx_H := ju_z jma_23 75 0
def jma_25 : jx_H := ju_M jma_24 11 0 (va_up (jh_M jma_24 11 0) 20 1)
def jma_26 : jx_H := ju_z jma_25 76 0
def jma_27 : jx_H := ju_M jma_26 11 0 (va_up (jh_M jma_26 11 0) 21 1)
def jma_28 : jx_H := ju_z jma_27 77 0
def jma_29 : jx_H := ju_M jma_28 11 0 (va_up (jh_M jma_28 11 0) 22 1)
def jma_30 : jx_H := ju_z jma_29 78 0
def jma_31 : jx_H := ju_M jma_30 11 0 (va_up (jh_M jma_30 11 0) 23 1)
def jma_32 : jx_H := ju_z jma_31 79 0
def jma_33 : jx_H := ju_M jma_32 11 0 (va_up (jh_M jma_32 11 0) 24 1)
def jma_34 : jx_H := ju_z jma_33 80 0
def jma_35 : jx_H := ju_M jma_34 11 0 (va_up (jh_M jma_34 11 0) 25 1)
def jma_36 : jx_H := ju_z jma_35 81 0
def jma_37 : jx_H := ju_M jma_36 11 0 (va_up (jh_M jma_36 11 0) 26 1)
def jma_38 : jx_H := ju_z jma_37 82 0
def jma_39 : jx_H := ju_M jma_38 11 0 (va_up (jh_M jma_38 11 0) 27 1)
def jma_40 : jx_H := ju_z jma_39 83 0
def jma_41 : jx_H := ju_M jma_40 11 0 (va_up (jh_M jma_40 11 0) 28 1)
def jma_42 : jx_H := ju_z jma_41 84 0
def jma_43 : jx_H := ju_M jma_42 11 0 (va_up (jh_M jma_42 11 0) 29 1)
def jma_44 : jx_H := ju_z jma_43 85 0
def jma_45 : jx_H := ju_M jma_44 11 0 (va_up (jh_M jma_44 11 0) 30 1)
def jma_46 : jx_H := ju_z jma_45 86 0
def jma_47 : jx_H := ju_M jma_46 11 0 (va_up (jh_M jma_46 11 0) 31 1)
def jma_48 : jx_H := ju_z jma_47 87 0
def jma_49 : jx_H := ju_M jma_48 11 0 (va_up (jh_M jma_48 11 0) 32 1)
def jma_50 : jx_H := ju_z jma_49 88 0
def jma_51 : jx_H := ju_M jma_50 11 0 (va_up (jh_M jma_50 11 0) 33 1)
def jma_52 : jx_H := ju_z jma_51 89 0
def jma_53 : jx_H := ju_M jma_52 11 0 (va_up (jh_M jma_52 11 0) 34 1)
def jma_54 : jx_H := ju_z jma_53 90 0
def jma_55 : jx_H := ju_M jma_54 11 0 (va_up (jh_M jma_54 11 0) 35 1)
def jma_56 : jx_H := ju_z jma_55 91 0
def jma_57 : jx_H := ju_M jma_56 11 0 (va_up (jh_M jma_56 11 0) 36 1)
def jma_58 : jx_H := ju_z jma_57 92 0
def jma_59 : jx_H := ju_M jma_58 11 0 (va_up (jh_M jma_58 11 0) 37 1)
def jma_60 : jx_H := ju_z jma_59 93 0
def jma_61 : jx_H := ju_M jma_60 11 0 (va_up (jh_M jma_60 11 0) 38 1)
def jma_62 : jx_H := ju_z jma_61 94 0
def jma_63 : jx_H := ju_M jma_62 11 0 (va_up (jh_M jma_62 11 0) 39 1)
def jma_64 : jx_H := ju_z jma_63 95 0
def jma_65 : jx_H := ju_M jma_64 11 0 (va_up (jh_M jma_64 11 0) 40 1)
def jma_66 : jx_H := ju_z jma_65 96 0
def jma_67 : jx_H := ju_M jma_66 11 0 (va_up (jh_M jma_66 11 0) 41 1)
def jma_68 : jx_H := ju_z jma_67 97 0
def jma_69 : jx_H := ju_M jma_68 11 0 (va_up (jh_M jma_68 11 0) 42 1)
def jma_70 : jx_H := ju_z jma_69 98 0
def jma_71 : jx_H := ju_M jma_70 11 0 (va_up (jh_M jma_70 11 0) 54 1)
def jma_72 : jx_H := ju_z jma_71 99 0
def jma_73 : jx_H := ju_M jma_72 11 0 (va_up (jh_M jma_72 11 0) 55 1)
def jma_74 : jx_H := ju_z jma_73 100 0
def jma_75 : jx_H := ju_M jma_74 11 0 (va_up (jh_M jma_74 11 0) 56 1)
def jma_76 : jx_H := ju_z jma_75 101 0
def jma_77 : jx_H := ju_M jma_76 11 0 (va_up (jh_M jma_76 11 0) 57 1)
def jma_78 : jx_H := ju_z jma_77 102 0
def jma_79 : jx_H := ju_M jma_78 11 0 (va_up (jh_M jma_78 11 0) 58 1)
def jma_80 : jx_H := ju_z jma_79 103 0
def jma_81 : jx_H := ju_M jma_80 11 0 (va_up (jh_M jma_80 11 0) 59 1)
def jma_82 : jx_H := ju_z jma_81 104 0
def jma_83 : jx_H := ju_M jma_82 11 0 (va_up (jh_M jma_82 11 0) 62 1)
def jma_84 : jx_H := ju_z jma_83 105 0
def jma_85 : jx_H := ju_M jma_84 11 0 (va_up (jh_M jma_84 11 0) 63 1)
def jma_86 : jx_H := ju_z jma_85 106 0
def jma_87 : jx_H := ju_M jma_86 11 0 (va_up (jh_M jma_86 11 0) 64 1)
def jma_88 : jx_H := ju_z jma_87 107 0
def jma_89 : jx_H := ju_M jma_88 11 0 (va_up (jh_M jma_88 11 0) 66 1)
def jma_90 : jx_H := ju_z jma_89 108 0
def jma_91 : jx_H := ju_M jma_90 11 0 (va_up (jh_M jma_90 11 0) 67 1)
def jma_92 : jx_H := ju_z jma_91 109 0
def jma_93 : jx_H := ju_M jma_92 11 0 (va_up (jh_M jma_92 11 0) 68 1)
def jma_94 : jx_H := ju_z jma_93 110 0
def jma_95 : jx_H := ju_M jma_94 11 0 (va_up (jh_M jma_94 11 0) 69 1)
def jma_96 : jx_H := ju_z jma_95 111 0
def jma_97 : jx_H := ju_M jma_96 11 0 (va_up (jh_M jma_96 11 0) 70 1)
def jma_98 : jx_H := ju_z jma_97 112 0
def jma_99 : jx_H := ju_M jma_98 11 0 (va_up (jh_M jma_98 11 0) 71 1)
def jma_100 : jx_H := ju_z jma_99 113 0
def jma_101 : jx_H := ju_M jma_100 11 0 (va_up (jh_M jma_100 11 0) 72 1)
def jma_102 : jx_H := ju_z jma_101 114 0
def jma_103 : jx_H := ju_M jma_102 11 0 (va_up (jh_M jma_102 11 0) 73 1)
def jma_104 : jx_H := ju_z jma_103 115 0
def jma_105 : jx_H := ju_M jma_104 11 0 (va_up (jh_M jma_104 11 0) 74 1)
def jma_106 : jx_H := ju_z jma_105 116 0
def jma_107 : jx_H := ju_M jma_106 11 0 (va_up (jh_M jma_106 11 0) 75 1)
def jma_108 : jx_H := ju_z jma_107 117 0
def jma_109 : jx_H := ju_M jma_108 11 0 (va_up (jh_M jma_108 11 0) 76 1)
def jma_110 : jx_H := ju_z jma_109 118 0
def jma_111 : jx_H := ju_M jma_110 11 0 (va_up (jh_M jma_110 11 0) 77 1)
def jma_112 : jx_H := ju_z jma_111 119 0
def jma_113 : jx_H := ju_M jma_112 11 0 (va_up (jh_M jma_112 11 0) 78 1)
def jma_114 : jx_H := ju_z jma_113 120 0
def jma_115 : jx_H := ju_M jma_114 11 0 (va_up (jh_M jma_114 11 0) 79 1)
def jma_116 : jx_H := ju_z jma_115 121 0
def jma_117 : jx_H := ju_M jma_116 11 0 (va_up (jh_M jma_116 11 0) 82 1)
def jma_118 : jx_H := ju_z jma_117 122 0
def jma_119 : jx_H := ju_M jma_118 11 0 (va_up (jh_M jma_118 11 0) 83 1)
def jma_120 : jx_H := ju_I jma_119 66 0 (upd (jh_I jma_119 66 0) 0 (0))
def jma_121 : jx_H := ju_I jma_120 67 0 (upd (jh_I jma_120 67 0) 0 (0))
def jma_122 : jx_H := ju_I jma_121 68 0 (upd (jh_I jma_121 68 0) 0 (0))
def jma_123 : jx_H := ju_I jma_122 69 0 (upd (jh_I jma_122 69 0) 0 (0))
def jma_124 : jx_H := ju_I jma_123 85 0 (upd (jh_I jma_123 85 0) 0 (0 &&& 1))
def jma_125 : jx_H := ju_I jma_124 86 0 (upd (jh_I jma_124 86 0) 0 (0 &&& 1))
def jma_126 : jx_H := ju_I jma_125 87 0 (upd (jh_I jma_125 87 0) 0 (0 &&& 1))
def jma_127 : jx_H := ju_I jma_126 88 0 (upd (jh_I jma_126 88 0) 0 (0 &&& 1))
def jma_128 : jx_H := ju_I jma_127 80 0 (upd (jh_I jma_127 80 0) 0 (0))
def jma_129 : jx_H := ju_I jma_128 81 0 (upd (jh_I jma_128 81 0) 0 (7))
def jma_130 : jx_H := ju_I jma_129 11 0 (upd (jh_I jma_129 11 0) 45 (0))
def jma_131 : jx_H := ju_I jma_130 89 0 (upd (jh_I jma_130 89 0) 0 (0 &&& 1))
def jma_132 : jx_H := ju_I jma_131 89 0 (upd (jh_I jma_131 89 0) 1 (0 &&& 1))
def jma_133 : jx_H := ju_I jma_132 89 0 (upd (jh_I jma_132 89 0) 2 (0 &&& 1))
def jma_134 : jx_H := ju_I jma_133 89 0 (upd (jh_I jma_133 89 0) 3 (0 &&& 1))
def jma_135 : jx_H := ju_I jma_134 89 0 (upd (jh_I jma_134 89 0) 4 (0 &&& 1))
def jma_136 : jx_H := ju_I jma_135 89 0 (upd (jh_I jma_135 89 0) 5 (0 &&& 1))
def jma_137 : jx_H := ju_I jma_136 98 0 (fun j => if j < 337 then 0 else jh_I jma_136 98 0 j)
def jma_138 : jx_H := ju_I jma_137 11 0 (upd (jh_I jma_137 11 0) 60 (0))
def jma_139 : jx_H := ju_I jma_138 11 0 (upd (jh_I jma_138 11 0) 61 (0))
def jma_140 : jx_H := ju_I jma_139 122 0 (upd (jh_I jma_139 122 0) 0 (0 &&& 1))
def jma_141 : jx_H := ju_I jma_140 122 0 (upd (jh_I jma_140 122 0) 1 (0 &&& 1))
def jma_142 : jx_H := ju_I jma_141 122 0 (upd (jh_I jma_141 122 0) 2 (0 &&& 1))
theorem jma_q0 : (jx_cells 1)[jh_n jma_0]? = some (64, 0) := by decide +kernel
theorem jma_q2 : (jx_cells 1)[jh_n jma_2]? = some (65, 0) := by decide +kernel
theorem jma_q5 : (jx_cells 1)[jh_n jma_5]? = some (66, 0) := by decide +kernel
theorem jma_q7 : (jx_cells 1)[jh_n jma_7]? = some (67, 0) := by decide +kernel
theorem jma_q9 : (jx_cells 1)[jh_n jma_9]? = some (68, 0) := by decide +kernel
theorem jma_q11 : (jx_cells 1)[jh_n jma_11]? = some (69, 0) := by decide +kernel
theorem jma_q13 : (jx_cells 1)[jh_n jma_13]? = some (70, 0) := by decide +kernel
theorem jma_q15 : (jx_cells 1)[jh_n jma_15]? = some (71, 0) := by decide +kernel
theorem jma_q17 : (jx_cells 1)[jh_n jma_17]? = some (72, 0) := by decide +kernel
theorem jma_q19 : (jx_cells 1)[jh_n jma_19]? = some (73, 0) := by decide +kernel
theorem jma_q21 : (jx_cells 1)[jh_n jma_21]? = some (74, 0) := by decide +kernel
theorem jma_q23 : (jx_cells 1)[jh_n jma_23]? = some (75, 0) := by decide +kernel
theorem jma_q25 : (jx_cells 1)[jh_n jma_25]? = some (76, 0) := by decide +kernel
theorem jma_q27 : (jx_cells 1)[jh_n jma_27]? = some (77, 0) := by decide +kernel
theorem jma_q29 : (jx_cells 1)[jh_n jma_29]? = some (78, 0) := by decide +kernel
theorem jma_q31 : (jx_cells 1)[jh_n jma_31]? = some (79, 0) := by decide +kernel
theorem jma_q33 : (jx_cells 1)[jh_n jma_33]? = some (80, 0) := by decide +kernel
theorem jma_q35 : (jx_cells 1)[jh_n jma_35]? = some (81, 0) := by decide +kernel
theorem jma_q37 : (jx_cells 1)[jh_n jma_37]? = some (82, 0) := by decide +kernel
theorem jma_q39 : (jx_cells 1)[jh_n jma_39]? = some (83, 0) := by decide +kernel
theorem jma_q41 : (jx_cells 1)[jh_n jma_41]? = some (84, 0) := by decide +kernel
theorem jma_q43 : (jx_cells 1)[jh_n jma_43]? = some (85, 0) := by decide +kernel
theorem jma_q45 : (jx_cells 1)[jh_n jma_45]? = some (86, 0) := by decide +kernel
theorem jma_q47 : (jx_cells 1)[jh_n jma_47]? = some (87, 0) := by decide +kernel
theorem jma_q49 : (jx_cells 1)[jh_n jma_49]? = some (88, 0) := by decide +kernel
theorem jma_q51 : (jx_cells 1)[jh_n jma_51]? = some (89, 0) := by decide +kernel
theorem jma_q53 : (jx_cells 1)[jh_n jma_53]? = some (90, 0) := by decide +kernel
theorem jma_q55 : (jx_cells 1)[jh_n jma_55]? = some (91, 0) := by decide +kernel
theorem jma_q57 : (jx_cells 1)[jh_n jma_57]? = some (92, 0) := by decide +kernel
theorem jma_q59 : (jx_cells 1)[jh_n jma_59]? = some (93, 0) := by decide +kernel
theorem jma_q61 : (jx_cells 1)[jh_n jma_61]? = some (94, 0) := by decide +kernel
theorem jma_q63 : (jx_cells 1)[jh_n jma_63]? = some (95, 0) := by decide +kernel
theorem jma_q65 : (jx_cells 1)[jh_n jma_65]? = some (96, 0) := by decide +kernel
theorem jma_q67 : (jx_cells 1)[jh_n jma_67]? = some (97, 0) := by decide +kernel
theorem jma_q69 : (jx_cells 1)[jh_n jma_69]? = some (98, 0) := by decide +kernel
theorem jma_q71 : (jx_cells 1)[jh_n jma_71]? = some (99, 0) := by decide +kernel
theorem jma_q73 : (jx_cells 1)[jh_n jma_73]? = some (100, 0) := by decide +kernel
theorem jma_q75 : (jx_cells 1)[jh_n jma_75]? = some (101, 0) := by decide +kernel
theorem jma_q77 : (jx_cells 1)[jh_n jma_77]? = some (102, 0) := by decide +kernel
theorem jma_q79 : (jx_cells 1)[jh_n jma_79]? = some (103, 0) := by decide +kernel
theorem jma_q81 : (jx_cells 1)[jh_n jma_81]? = some (104, 0) := by decide +kernel
theorem jma_q83 : (jx_cells 1)[jh_n jma_83]? = some (105, 0) := by decide +kernel
theorem jma_q85 : (jx_cells 1)[jh_n jma_85]? = some (106, 0) := by decide +kernel
theorem jma_q87 : (jx_cells 1)[jh_n jma_87]? = some (107, 0) := by decide +kernel
theorem jma_q89 : (jx_cells 1)[jh_n jma_89]? = some (108, 0) := by decide +kernel
theorem jma_q91 : (jx_cells 1)[jh_n jma_91]? = some (109, 0) := by decide +kernel
theorem jma_q93 : (jx_cells 1)[jh_n jma_93]? = some (110, 0) := by decide +kernel
theorem jma_q95 : (jx_cells 1)[jh_n jma_95]? = some (111, 0) := by decide +kernel
theorem jma_q97 : (jx_cells 1)[jh_n jma_97]? = some (112, 0) := by decide +kernel
theorem jma_q99 : (jx_cells 1)[jh_n jma_99]? = some (113, 0) := by decide +kernel
theorem jma_q101 : (jx_cells 1)[jh_n jma_101]? = some (114, 0) := by decide +kernel
theorem jma_q103 : (jx_cells 1)[jh_n jma_103]? = some (115, 0) := by decide +kernel
theorem jma_q105 : (jx_cells 1)[jh_n jma_105]? = some (116, 0) := by decide +kernel
theorem jma_q107 : (jx_cells 1)[jh_n jma_107]? = some (117, 0) := by decide +kernel
theorem jma_q109 : (jx_cells 1)[jh_n jma_109]? = some (118, 0) := by decide +kernel
theorem jma_q111 : (jx_cells 1)[jh_n jma_111]? = some (119, 0) := by decide +kernel
theorem jma_q113 : (jx_cells 1)[jh_n jma_113]? = some (120, 0) := by decide +kernel
theorem jma_q115 : (jx_cells 1)[jh_n jma_115]? = some (121, 0) := by decide +kernel
theorem jma_q117 : (jx_cells 1)[jh_n jma_117]? = some (122, 0) := by decide +kernel
set_option maxHeartbeats 4000000 in
set_option maxRecDepth 100000 in
theorem ek_MD_clearBank_1 {d : Nat} {Q : Option jx_V → jx_H → Prop} (hQ : Q none jma_136) : jx_Ev jm_MD_clearBank (d + 11) 0 0 true 1 [jv_r 11 0] jma_119 Q := by
  show jx_W (jm_MD_clearBank, d + 11, 0, 0, true, 1, _) Q 0 0 0 [some (jv_r 11 0), none] [] jma_119
  refine jr_aload rfl rfl ?_
  refine jr_getR rfl rfl rfl rfl (Or.inr (by decide +kernel)) ?_
  refine jr_aload rfl rfl ?_
  refine jr_getI rfl rfl ?_
  refine jx_top (show _ = (0 : Int32) from by decide +kernel) ?_
  refine jr_ic rfl ?_
  refine jr_iast (len := 2) rfl rfl (show _ = nI 0 from rfl) (Nat.le_of_ble_eq_true rfl) ?_
  show jx_W _ _ 0 0 _ _ _ jma_120
  refine jr_aload rfl rfl ?_
  refine jr_getR rfl rfl rfl rfl (Or.inr (by decide +kernel)) ?_
  refine jr_aload rfl rfl ?_
  refine jr_getI rfl rfl ?_
  refine jx_top (show _ = (0 : Int32) from by decide +kernel) ?_
  refine jr_ic rfl ?_
  refine jr_iast (len := 2) rfl rfl (show _ = nI 0 from rfl) (Nat.le_of_ble_eq_true rfl) ?_
  show jx_W _ _ 0 0 _ _ _ jma_121
  refine jr_aload rfl rfl ?_
  refine jr_getR rfl rfl rfl rfl (Or.inr (by decide +kernel)) ?_
  refine jr_aload rfl rfl ?_
  refine jr_getI rfl rfl ?_
  refine jx_top (show _ = (0 : Int32) from by decide +kernel) ?_
  refine jr_ic rfl ?_
  refine jr_iast (len := 2) rfl rfl (show _ = nI 0 from rfl) (Nat.le_of_ble_eq_true rfl) ?_
  show jx_W _ _ 0 0 _ _ _ jma_122
  refine jr_aload rfl rfl ?_
  refine jr_getR rfl rfl rfl rfl (Or.inr (by decide +kernel)) ?_
  refine jr_aload rfl rfl ?_
  refine jr_getI rfl rfl ?_
  refine jx_top (show _ = (0 : Int32) from by decide +kernel) ?_
  refine jr_ic rfl ?_
  refine jr_iast (len := 2) rfl rfl (show _ = nI 0 from rfl) (Nat.le_of_ble_eq_true rfl) ?_
  show jx_W _ _ 0 0 _ _ _ jma_123
  refine jr_aload rfl rfl ?_
  refine jr_getR rfl rfl rfl rfl (Or.inr (by decide +kernel)) ?_
  refine jr_aload rfl rfl ?_
  refine jr_getI rfl rfl ?_
  refine jx_top (show _ = (0 : Int32) from by decide +kernel) ?_
  refine jr_ic rfl ?_
  refine jr_zast (len := 2) rfl rfl (show _ = nI 0 from rfl) (Nat.le_of_ble_eq_true rfl) ?_
  show jx_W _ _ 0 0 _ _ _ jma_124
  refine jr_aload rfl rfl ?_
  refine jr_getR rfl rfl rfl rfl (Or.inr (by decide +kernel)) ?_
  refine jr_aload rfl rfl ?_
  refine jr_getI rfl rfl ?_
  refine jx_top (show _ = (0 : Int32) from by decide +kernel) ?_
  refine jr_ic rfl ?_
  refine jr_zast (len := 2) rfl rfl (show _ = nI 0 from rfl) (Nat.le_of_ble_eq_true rfl) ?_
  show jx_W _ _ 0 0 _ _ _ jma_125
  refine jr_aload rfl rfl ?_
  refine jr_getR rfl rfl rfl rfl (Or.inr (by decide +kernel)) ?_
  refine jr_aload rfl rfl ?_
  refine jr_getI rfl rfl ?_
  refine jx_top (show _ = (0 : Int32) from by decide +kernel) ?_
  refine jr_ic rfl ?_
  refine jr_zast (len := 2) rfl rfl (show _ = nI 0 from rfl) (Nat.le_of_ble_eq_true rfl) ?_
  show jx_W _ _ 0 0 _ _ _ jma_126
  refine jr_aload rfl rfl ?_
  refine jr_getR rfl rfl rfl rfl (Or.inr (by decide +kernel)) ?_
  refine jr_aload rfl rfl ?_
  refine jr_getI rfl rfl ?_
  refine jx_top (show _ = (0 : Int32) from by decide +kernel) ?_
  refine jr_ic rfl ?_
  refine jr_zast (len := 2) rfl rfl (show _ = nI 0 from rfl) (Nat.le_of_ble_eq_true rfl) ?_
  show jx_W _ _ 0 0 _ _ _ jma_127
  refine jr_aload rfl rfl ?_
  refine jr_getR rfl rfl rfl rfl (Or.inr (by decide +kernel)) ?_
  refine jr_aload rfl rfl ?_
  refine jr_getI rfl rfl ?_
  refine jx_top (show _ = (0 : Int32) from by decide +kernel) ?_
  refine jr_ic rfl ?_
  refine jr_iast (len := 2) rfl rfl (show _ = nI 0 from rfl) (Nat.le_of_ble_eq_true rfl) ?_
  show jx_W _ _ 0 0 _ _ _ jma_128
  refine jr_aload rfl rfl ?_
  refine jr_getR rfl rfl rfl rfl (Or.inr (by decide +kernel)) ?_
  refine jr_aload rfl rfl ?_
  refine jr_getI rfl rfl ?_
  refine jx_top (show _ = (0 : Int32) from by decide +kernel) ?_
  refine jr_ic rfl ?_
  refine jr_iast (len := 2) rfl rfl (show _ = nI 0 from rfl) (Nat.le_of_ble_eq_true rfl) ?_
  show jx_W _ _ 0 0 _ _ _ jma_129
  refine jr_aload rfl rfl ?_
  refine jr_ic rfl ?_
  refine jr_aload rfl rfl ?_
  refine jr_getI rfl rfl ?_
  refine jx_top (show _ = (0 : Int32) from by decide +kernel) ?_
  refine jr_imul rfl ?_
  refine jr_putI rfl rfl ?_
  show jx_W _ _ 0 0 _ _ _ jma_130
  refine jr_ic rfl ?_
  refine jr_aload rfl rfl ?_
  refine jr_getI rfl rfl ?_
  refine jx_top (show _ = (0 : Int32) from by decide +kernel) ?_
  refine jr_imul rfl ?_
  refine jr_ist1 rfl rfl ?_
  refine jr_iload rfl rfl ?_
  refine jr_ic rfl ?_
  refine jr_aload rfl rfl ?_
  refine jr_getI rfl rfl ?_
  refine jx_top (show _ = (0 : Int32) from by decide +kernel) ?_
  refine jr_imul rfl ?_
  refine jr_ic rfl ?_
  refine jr_iadd rfl ?_
  refine jr_icmp_ge rfl (fun z => absurd z (by decide +kernel)) (fun _ => ?_)
  refine jr_aload rfl rfl ?_
  refine jr_getR rfl rfl rfl rfl (Or.inr (by decide +kernel)) ?_
  refine jr_iload rfl rfl ?_
  refine jr_ic rfl ?_
  refine jr_zast (len := 12) rfl rfl (show _ = nI 0 from rfl) (Nat.le_of_ble_eq_true rfl) ?_
  show jx_W _ _ 0 0 _ _ _ jma_131
  refine jr_iinc1 rfl rfl ?_
  refine jr_goto rfl ?_
  refine jr_iload rfl rfl ?_
  refine jr_ic rfl ?_
  refine jr_aload rfl rfl ?_
  refine jr_getI rfl rfl ?_
  refine jx_top (show _ = (0 : Int32) from by decide +kernel) ?_
  refine jr_imul rfl ?_
  refine jr_ic rfl ?_
  refine jr_iadd rfl ?_
  refine jr_icmp_ge rfl (fun z => absurd z (by decide +kernel)) (fun _ => ?_)
  refine jr_aload rfl rfl ?_
  refine jr_getR rfl rfl rfl rfl (Or.inr (by decide +kernel)) ?_
  refine jr_iload rfl rfl ?_
  refine jr_ic rfl ?_
  refine jr_zast (len := 12) rfl rfl (show _ = nI 1 from rfl) (Nat.le_of_ble_eq_true rfl) ?_
  show jx_W _ _ 0 0 _ _ _ jma_132
  refine jr_iinc1 rfl rfl ?_
  refine jr_goto rfl ?_
  refine jr_iload rfl rfl ?_
  refine jr_ic rfl ?_
  refine jr_aload rfl rfl ?_
  refine jr_getI rfl rfl ?_
  refine jx_top (show _ = (0 : Int32) from by decide +kernel) ?_
  refine jr_imul rfl ?_
  refine jr_ic rfl ?_
  refine jr_iadd rfl ?_
  refine jr_icmp_ge rfl (fun z => absurd z (by decide +kernel)) (fun _ => ?_)
  refine jr_aload rfl rfl ?_
  refine jr_getR rfl rfl rfl rfl (Or.inr (by decide +kernel)) ?_
  refine jr_iload rfl rfl ?_
  refine jr_ic rfl ?_
  refine jr_zast (len := 12) rfl rfl (show _ = nI 2 from rfl) (Nat.le_of_ble_eq_true rfl) ?_
  show jx_W _ _ 0 0 _ _ _ jma_133
  refine jr_iinc1 rfl rfl ?_
  refine jr_goto rfl ?_
  refine jr_iload rfl rfl ?_
  refine jr_ic rfl ?_
  refine jr_aload rfl rfl ?_
  refine jr_getI rfl rfl ?_
  refine jx_top (show _ = (0 : Int32) from by decide +kernel) ?_
  refine jr_imul rfl ?_
  refine jr_ic rfl ?_
  refine jr_iadd rfl ?_
  refine jr_icmp_ge rfl (fun z => absurd z (by decide +kernel)) (fun _ => ?_)
  refine jr_aload rfl rfl ?_
  refine jr_getR rfl rfl rfl rfl (Or.inr (by decide +kernel)) ?_
  refine jr_iload rfl rfl ?_
  refine jr_ic rfl ?_
  refine jr_zast (len := 12) rfl rfl (show _ = nI 3 from rfl) (Nat.le_of_ble_eq_true rfl) ?_
  show jx_W _ _ 0 0 _ _ _ jma_134
  refine jr_iinc1 rfl rfl ?_
  refine jr_goto rfl ?_
  refine jr_iload rfl rfl ?_
  refine jr_ic rfl ?_
  refine jr_aload rfl rfl ?_
  refine jr_getI rfl rfl ?_
  refine jx_top (show _ = (0 : Int32) from by decide +kernel) ?_
  refine jr_imul rfl ?_
  refine jr_ic rfl ?_
  refine jr_iadd rfl ?_
  refine jr_icmp_ge rfl (fun z => absurd z (by decide +kernel)) (fun _ => ?_)
  refine jr_aload rfl rfl ?_
  refine jr_getR rfl rfl rfl rfl (Or.inr (by decide +kernel)) ?_
  refine jr_iload rfl rfl ?_
  refine jr_ic rfl ?_
  refine jr_zast (len := 12) rfl rfl (show _ = nI 4 from rfl) (Nat.le_of_ble_eq_true rfl) ?_
  show jx_W _ _ 0 0 _ _ _ jma_135
  refine jr_iinc1 rfl rfl ?_
  refine jr_goto rfl ?_
  refine jr_iload rfl rfl ?_
  refine jr_ic rfl ?_
  refine jr_aload rfl rfl ?_
  refine jr_getI rfl rfl ?_
  refine jx_top (show _ = (0 : Int32) from by decide +kernel) ?_
  refine jr_imul rfl ?_
  refine jr_ic rfl ?_
  refine jr_iadd rfl ?_
  refine jr_icmp_ge rfl (fun z => absurd z (by decide +kernel)) (fun _ => ?_)
  refine jr_aload rfl rfl ?_
  refine jr_getR rfl rfl rfl rfl (Or.inr (by decide +kernel)) ?_
  refine jr_iload rfl rfl ?_
  refine jr_ic rfl ?_
  refine jr_zast (len := 12) rfl rfl (show _ = nI 5 from rfl) (Nat.le_of_ble_eq_true rfl) ?_
  show jx_W _ _ 0 0 _ _ _ jma_136
  refine jr_iinc1 rfl rfl ?_
  refine jr_goto rfl ?_
  refine jr_iload rfl rfl ?_
  refine jr_ic rfl ?_
  refine jr_aload rfl rfl ?_
  refine jr_getI rfl rfl ?_
  refine jx_top (show _ = (0 : Int32) from by decide +kernel) ?_
  refine jr_imul rfl ?_
  refine jr_ic rfl ?_
  refine jr_iadd rfl ?_
  refine jr_icmp_ge rfl (fun _ => ?_) (fun z => absurd (by decide +kernel) z)
  exact jr_vret rfl rfl (Nat.le_of_ble_eq_true rfl) (Nat.le_of_ble_eq_true rfl) hQ

set_option maxHeartbeats 4000000 in
set_option maxRecDepth 100000 in
theorem ek_MD_begin_1 {d : Nat} {Q : Option jx_V → jx_H → Prop} (hQ : Q none jma_139) : jx_Ev jm_MD_begin (d + 11) 0 0 true 1 [jv_r 11 0] jma_136 Q := by
  show jx_W (jm_MD_begin, d + 11, 0, 0, true, 1, _) Q 0 0 0 [some (jv_r 11 0), none] [] jma_136
  refine jr_ic rfl ?_
  refine jr_ist1 rfl rfl ?_
  refine lp_z0 (by decide +kernel) ?_
  show jx_W _ _ 0 0 _ _ _ jma_137
  refine jr_ic rfl ?_
  refine jr_ist1 rfl rfl ?_
  refine jr_iload rfl rfl ?_
  refine jr_aload rfl rfl ?_
  refine jr_cv0 (mc' := 0) (ms' := 0) rfl jm_MD_personMany_n jm_MD_personMany_f rfl rfl rfl rfl rfl rfl rfl (Nat.le_of_ble_eq_true rfl) (Nat.le_of_ble_eq_true rfl) ?_
  refine ek_np (by decide +kernel) (by decide +kernel) (by decide +kernel) ?_
  refine jr_icmp_ge rfl (fun _ => ?_) (fun z => absurd (by decide +kernel) z)
  refine jr_aload rfl rfl ?_
  refine jr_ic rfl ?_
  refine jr_putI rfl rfl ?_
  show jx_W _ _ 0 0 _ _ _ jma_138
  refine jr_aload rfl rfl ?_
  refine jr_ic rfl ?_
  refine jr_putI rfl rfl ?_
  show jx_W _ _ 0 0 _ _ _ jma_139
  exact jr_vret rfl rfl (Nat.le_of_ble_eq_true rfl) (Nat.le_of_ble_eq_true rfl) hQ

set_option maxHeartbeats 4000000 in
set_option maxRecDepth 100000 in
theorem ek_MD_init_1 {d : Nat} {Q : Option jx_V → jx_H → Prop} (hQ : Q none jma_142) : jx_Ev jm_MD_init (d + 12) 59 22356 true 1 [jv_r 11 0] jma_0 Q := by
  show jx_W (jm_MD_init, d + 12, 59, 22356, true, 1, _) Q 0 0 0 [some (jv_r 11 0), none] [] jma_0
  refine jr_aload rfl rfl ?_
  refine jr_objI rfl rfl (Nat.succ_le_succ (Nat.zero_le _)) rfl ?_
  refine jr_aload rfl rfl ?_
  refine jr_ic rfl ?_
  refine jr_newa (a := 64) (len := 1720) rfl rfl (by decide) rfl (Nat.le_of_ble_eq_true rfl) (show _ = nI 1720 from rfl) jma_q0 (Nat.le_of_ble_eq_true rfl) (Nat.le_of_ble_eq_true rfl) ?_
  show jx_W _ _ 1 1720 _ _ _ jma_1
  refine jr_putR rfl rfl rfl rfl rfl rfl rfl ?_
  show jx_W _ _ 1 1720 _ _ _ jma_2
  refine jr_aload rfl rfl ?_
  refine jr_ic rfl ?_
  refine jr_newa (a := 65) (len := 1700) rfl rfl (by decide) rfl (Nat.le_of_ble_eq_true rfl) (show _ = nI 1700 from rfl) jma_q2 (Nat.le_of_ble_eq_true rfl) (Nat.le_of_ble_eq_true rfl) ?_
  show jx_W _ _ 2 3420 _ _ _ jma_3
  refine jr_putR rfl rfl rfl rfl rfl rfl rfl ?_
  show jx_W _ _ 2 3420 _ _ _ jma_4
  refine jr_aload rfl rfl ?_
  refine jr_ic rfl ?_
  refine jr_putI rfl rfl ?_
  show jx_W _ _ 2 3420 _ _ _ jma_5
  refine jr_aload rfl rfl ?_
  refine jr_ic rfl ?_
  refine jr_newa (a := 66) (len := 2) rfl rfl (by decide) rfl (Nat.le_of_ble_eq_true rfl) (show _ = nI 2 from rfl) jma_q5 (Nat.le_of_ble_eq_true rfl) (Nat.le_of_ble_eq_true rfl) ?_
  show jx_W _ _ 3 3422 _ _ _ jma_6
  refine jr_putR rfl rfl rfl rfl rfl rfl rfl ?_
  show jx_W _ _ 3 3422 _ _ _ jma_7
  refine jr_aload rfl rfl ?_
  refine jr_ic rfl ?_
  refine jr_newa (a := 67) (len := 2) rfl rfl (by decide) rfl (Nat.le_of_ble_eq_true rfl) (show _ = nI 2 from rfl) jma_q7 (Nat.le_of_ble_eq_true rfl) (Nat.le_of_ble_eq_true rfl) ?_
  show jx_W _ _ 4 3424 _ _ _ jma_8
  refine jr_putR rfl rfl rfl rfl rfl rfl rfl ?_
  show jx_W _ _ 4 3424 _ _ _ jma_9
  refine jr_aload rfl rfl ?_
  refine jr_ic rfl ?_
  refine jr_newa (a := 68) (len := 2) rfl rfl (by decide) rfl (Nat.le_of_ble_eq_true rfl) (show _ = nI 2 from rfl) jma_q9 (Nat.le_of_ble_eq_true rfl) (Nat.le_of_ble_eq_true rfl) ?_
  show jx_W _ _ 5 3426 _ _ _ jma_10
  refine jr_putR rfl rfl rfl rfl rfl rfl rfl ?_
  show jx_W _ _ 5 3426 _ _ _ jma_11
  refine jr_aload rfl rfl ?_
  refine jr_ic rfl ?_
  refine jr_newa (a := 69) (len := 2) rfl rfl (by decide) rfl (Nat.le_of_ble_eq_true rfl) (show _ = nI 2 from rfl) jma_q11 (Nat.le_of_ble_eq_true rfl) (Nat.le_of_ble_eq_true rfl) ?_
  show jx_W _ _ 6 3428 _ _ _ jma_12
  refine jr_putR rfl rfl rfl rfl rfl rfl rfl ?_
  show jx_W _ _ 6 3428 _ _ _ jma_13
  refine jr_aload rfl rfl ?_
  refine jr_ic rfl ?_
  refine jr_newa (a := 70) (len := 12) rfl rfl (by decide) rfl (Nat.le_of_ble_eq_true rfl) (show _ = nI 12 from rfl) jma_q13 (Nat.le_of_ble_eq_true rfl) (Nat.le_of_ble_eq_true rfl) ?_
  show jx_W _ _ 7 3440 _ _ _ jma_14
  refine jr_putR rfl rfl rfl rfl rfl rfl rfl ?_
  show jx_W _ _ 7 3440 _ _ _ jma_15
  refine jr_aload rfl rfl ?_
  refine jr_ic rfl ?_
  refine jr_newa (a := 71) (len := 12) rfl rfl (by decide) rfl (Nat.le_of_ble_eq_true rfl) (show _ = nI 12 from rfl) jma_q15 (Nat.le_of_ble_eq_true rfl) (Nat.le_of_ble_eq_true rfl) ?_
  show jx_W _ _ 8 3452 _ _ _ jma_16
  refine jr_putR rfl rfl rfl rfl rfl rfl rfl ?_
  show jx_W _ _ 8 3452 _ _ _ jma_17
  refine jr_aload rfl rfl ?_
  refine jr_ic rfl ?_
  refine jr_newa (a := 72) (len := 10) rfl rfl (by decide) rfl (Nat.le_of_ble_eq_true rfl) (show _ = nI 10 from rfl) jma_q17 (Nat.le_of_ble_eq_true rfl) (Nat.le_of_ble_eq_true rfl) ?_
  show jx_W _ _ 9 3462 _ _ _ jma_18
  refine jr_putR rfl rfl rfl rfl rfl rfl rfl ?_
  show jx_W _ _ 9 3462 _ _ _ jma_19
  refine jr_aload rfl rfl ?_
  refine jr_ic rfl ?_
  refine jr_newa (a := 73) (len := 24) rfl rfl (by decide) rfl (Nat.le_of_ble_eq_true rfl) (show _ = nI 24 from rfl) jma_q19 (Nat.le_of_ble_eq_true rfl) (Nat.le_of_ble_eq_true rfl) ?_
  show jx_W _ _ 10 3486 _ _ _ jma_20
  refine jr_putR rfl rfl rfl rfl rfl rfl rfl ?_
  show jx_W _ _ 10 3486 _ _ _ jma_21
  refine jr_aload rfl rfl ?_
  refine jr_ic rfl ?_
  refine jr_newa (a := 74) (len := 24) rfl rfl (by decide) rfl (Nat.le_of_ble_eq_true rfl) (show _ = nI 24 from rfl) jma_q21 (Nat.le_of_ble_eq_true rfl) (Nat.le_of_ble_eq_true rfl) ?_
  show jx_W _ _ 11 3510 _ _ _ jma_22
  refine jr_putR rfl rfl rfl rfl rfl rfl rfl ?_
  show jx_W _ _ 11 3510 _ _ _ jma_23
  refine jr_aload rfl rfl ?_
  refine jr_ic rfl ?_
  refine jr_newa (a := 75) (len := 24) rfl rfl (by decide) rfl (Nat.le_of_ble_eq_true rfl) (show _ = nI 24 from rfl) jma_q23 (Nat.le_of_ble_eq_true rfl) (Nat.le_of_ble_eq_true rfl) ?_
  show jx_W _ _ 12 3534 _ _ _ jma_24
  refine jr_putR rfl rfl rfl rfl rfl rfl rfl ?_
  show jx_W _ _ 12 3534 _ _ _ jma_25
  refine jr_aload rfl rfl ?_
  refine jr_ic rfl ?_
  refine jr_newa (a := 76) (len := 24) rfl rfl (by decide) rfl (Nat.le_of_ble_eq_true rfl) (show _ = nI 24 from rfl) jma_q25 (Nat.le_of_ble_eq_true rfl) (Nat.le_of_ble_eq_true rfl) ?_
  show jx_W _ _ 13 3558 _ _ _ jma_26
  refine jr_putR rfl rfl rfl rfl rfl rfl rfl ?_
  show jx_W _ _ 13 3558 _ _ _ jma_27
  refine jr_aload rfl rfl ?_
  refine jr_ic rfl ?_
  refine jr_newa (a := 77) (len := 24) rfl rfl (by decide) rfl (Nat.le_of_ble_eq_true rfl) (show _ = nI 24 from rfl) jma_q27 (Nat.le_of_ble_eq_true rfl) (Nat.le_of_ble_eq_true rfl) ?_
  show jx_W _ _ 14 3582 _ _ _ jma_28
  refine jr_putR rfl rfl rfl rfl rfl rfl rfl ?_
  show jx_W _ _ 14 3582 _ _ _ jma_29
  refine jr_aload rfl rfl ?_
  refine jr_ic rfl ?_
  refine jr_newa (a := 78) (len := 2) rfl rfl (by decide) rfl (Nat.le_of_ble_eq_true rfl) (show _ = nI 2 from rfl) jma_q29 (Nat.le_of_ble_eq_true rfl) (Nat.le_of_ble_eq_true rfl) ?_
  show jx_W _ _ 15 3584 _ _ _ jma_30
  refine jr_putR rfl rfl rfl rfl rfl rfl rfl ?_
  show jx_W _ _ 15 3584 _ _ _ jma_31
  refine jr_aload rfl rfl ?_
  refine jr_ic rfl ?_
  refine jr_newa (a := 79) (len := 2) rfl rfl (by decide) rfl (Nat.le_of_ble_eq_true rfl) (show _ = nI 2 from rfl) jma_q31 (Nat.le_of_ble_eq_true rfl) (Nat.le_of_ble_eq_true rfl) ?_
  show jx_W _ _ 16 3586 _ _ _ jma_32
  refine jr_putR rfl rfl rfl rfl rfl rfl rfl ?_
  show jx_W _ _ 16 3586 _ _ _ jma_33
  refine jr_aload rfl rfl ?_
  refine jr_ic rfl ?_
  refine jr_newa (a := 80) (len := 2) rfl rfl (by decide) rfl (Nat.le_of_ble_eq_true rfl) (show _ = nI 2 from rfl) jma_q33 (Nat.le_of_ble_eq_true rfl) (Nat.le_of_ble_eq_true rfl) ?_
  show jx_W _ _ 17 3588 _ _ _ jma_34
  refine jr_putR rfl rfl rfl rfl rfl rfl rfl ?_
  show jx_W _ _ 17 3588 _ _ _ jma_35
  refine jr_aload rfl rfl ?_
  refine jr_ic rfl ?_
  refine jr_newa (a := 81) (len := 2) rfl rfl (by decide) rfl (Nat.le_of_ble_eq_true rfl) (show _ = nI 2 from rfl) jma_q35 (Nat.le_of_ble_eq_true rfl) (Nat.le_of_ble_eq_true rfl) ?_
  show jx_W _ _ 18 3590 _ _ _ jma_36
  refine jr_putR rfl rfl rfl rfl rfl rfl rfl ?_
  show jx_W _ _ 18 3590 _ _ _ jma_37
  refine jr_aload rfl rfl ?_
  refine jr_ic rfl ?_
  refine jr_newa (a := 82) (len := 12) rfl rfl (by decide) rfl (Nat.le_of_ble_eq_true rfl) (show _ = nI 12 from rfl) jma_q37 (Nat.le_of_ble_eq_true rfl) (Nat.le_of_ble_eq_true rfl) ?_
  show jx_W _ _ 19 3602 _ _ _ jma_38
  refine jr_putR rfl rfl rfl rfl rfl rfl rfl ?_
  show jx_W _ _ 19 3602 _ _ _ jma_39
  refine jr_aload rfl rfl ?_
  refine jr_ic rfl ?_
  refine jr_newa (a := 83) (len := 12) rfl rfl (by decide) rfl (Nat.le_of_ble_eq_true rfl) (show _ = nI 12 from rfl) jma_q39 (Nat.le_of_ble_eq_true rfl) (Nat.le_of_ble_eq_true rfl) ?_
  show jx_W _ _ 20 3614 _ _ _ jma_40
  refine jr_putR rfl rfl rfl rfl rfl rfl rfl ?_
  show jx_W _ _ 20 3614 _ _ _ jma_41
  refine jr_aload rfl rfl ?_
  refine jr_ic rfl ?_
  refine jr_newa (a := 84) (len := 24) rfl rfl (by decide) rfl (Nat.le_of_ble_eq_true rfl) (show _ = nI 24 from rfl) jma_q41 (Nat.le_of_ble_eq_true rfl) (Nat.le_of_ble_eq_true rfl) ?_
  show jx_W _ _ 21 3638 _ _ _ jma_42
  refine jr_putR rfl rfl rfl rfl rfl rfl rfl ?_
  show jx_W _ _ 21 3638 _ _ _ jma_43
  refine jr_aload rfl rfl ?_
  refine jr_ic rfl ?_
  refine jr_newa (a := 85) (len := 2) rfl rfl (by decide) rfl (Nat.le_of_ble_eq_true rfl) (show _ = nI 2 from rfl) jma_q43 (Nat.le_of_ble_eq_true rfl) (Nat.le_of_ble_eq_true rfl) ?_
  show jx_W _ _ 22 3640 _ _ _ jma_44
  refine jr_putR rfl rfl rfl rfl rfl rfl rfl ?_
  show jx_W _ _ 22 3640 _ _ _ jma_45
  refine jr_aload rfl rfl ?_
  refine jr_ic rfl ?_
  refine jr_newa (a := 86) (len := 2) rfl rfl (by decide) rfl (Nat.le_of_ble_eq_true rfl) (show _ = nI 2 from rfl) jma_q45 (Nat.le_of_ble_eq_true rfl) (Nat.le_of_ble_eq_true rfl) ?_
  show jx_W _ _ 23 3642 _ _ _ jma_46
  refine jr_putR rfl rfl rfl rfl rfl rfl rfl ?_
  show jx_W _ _ 23 3642 _ _ _ jma_47
  refine jr_aload rfl rfl ?_
  refine jr_ic rfl ?_
  refine jr_newa (a := 87) (len := 2) rfl rfl (by decide) rfl (Nat.le_of_ble_eq_true rfl) (show _ = nI 2 from rfl) jma_q47 (Nat.le_of_ble_eq_true rfl) (Nat.le_of_ble_eq_true rfl) ?_
  show jx_W _ _ 24 3644 _ _ _ jma_48
  refine jr_putR rfl rfl rfl rfl rfl rfl rfl ?_
  show jx_W _ _ 24 3644 _ _ _ jma_49
  refine jr_aload rfl rfl ?_
  refine jr_ic rfl ?_
  refine jr_newa (a := 88) (len := 2) rfl rfl (by decide) rfl (Nat.le_of_ble_eq_true rfl) (show _ = nI 2 from rfl) jma_q49 (Nat.le_of_ble_eq_true rfl) (Nat.le_of_ble_eq_true rfl) ?_
  show jx_W _ _ 25 3646 _ _ _ jma_50
  refine jr_putR rfl rfl rfl rfl rfl rfl rfl ?_
  show jx_W _ _ 25 3646 _ _ _ jma_51
  refine jr_aload rfl rfl ?_
  refine jr_ic rfl ?_
  refine jr_newa (a := 89) (len := 12) rfl rfl (by decide) rfl (Nat.le_of_ble_eq_true rfl) (show _ = nI 12 from rfl) jma_q51 (Nat.le_of_ble_eq_true rfl) (Nat.le_of_ble_eq_true rfl) ?_
  show jx_W _ _ 26 3658 _ _ _ jma_52
  refine jr_putR rfl rfl rfl rfl rfl rfl rfl ?_
  show jx_W _ _ 26 3658 _ _ _ jma_53
  refine jr_aload rfl rfl ?_
  refine jr_ic rfl ?_
  refine jr_newa (a := 90) (len := 12) rfl rfl (by decide) rfl (Nat.le_of_ble_eq_true rfl) (show _ = nI 12 from rfl) jma_q53 (Nat.le_of_ble_eq_true rfl) (Nat.le_of_ble_eq_true rfl) ?_
  show jx_W _ _ 27 3670 _ _ _ jma_54
  refine jr_putR rfl rfl rfl rfl rfl rfl rfl ?_
  show jx_W _ _ 27 3670 _ _ _ jma_55
  refine jr_aload rfl rfl ?_
  refine jr_ic rfl ?_
  refine jr_newa (a := 91) (len := 10) rfl rfl (by decide) rfl (Nat.le_of_ble_eq_true rfl) (show _ = nI 10 from rfl) jma_q55 (Nat.le_of_ble_eq_true rfl) (Nat.le_of_ble_eq_true rfl) ?_
  show jx_W _ _ 28 3680 _ _ _ jma_56
  refine jr_putR rfl rfl rfl rfl rfl rfl rfl ?_
  show jx_W _ _ 28 3680 _ _ _ jma_57
  refine jr_aload rfl rfl ?_
  refine jr_ic rfl ?_
  refine jr_newa (a := 92) (len := 24) rfl rfl (by decide) rfl (Nat.le_of_ble_eq_true rfl) (show _ = nI 24 from rfl) jma_q57 (Nat.le_of_ble_eq_true rfl) (Nat.le_of_ble_eq_true rfl) ?_
  show jx_W _ _ 29 3704 _ _ _ jma_58
  refine jr_putR rfl rfl rfl rfl rfl rfl rfl ?_
  show jx_W _ _ 29 3704 _ _ _ jma_59
  refine jr_aload rfl rfl ?_
  refine jr_ic rfl ?_
  refine jr_newa (a := 93) (len := 1240) rfl rfl (by decide) rfl (Nat.le_of_ble_eq_true rfl) (show _ = nI 1240 from rfl) jma_q59 (Nat.le_of_ble_eq_true rfl) (Nat.le_of_ble_eq_true rfl) ?_
  show jx_W _ _ 30 4944 _ _ _ jma_60
  refine jr_putR rfl rfl rfl rfl rfl rfl rfl ?_
  show jx_W _ _ 30 4944 _ _ _ jma_61
  refine jr_aload rfl rfl ?_
  refine jr_ic rfl ?_
  refine jr_newa (a := 94) (len := 1240) rfl rfl (by decide) rfl (Nat.le_of_ble_eq_true rfl) (show _ = nI 1240 from rfl) jma_q61 (Nat.le_of_ble_eq_true rfl) (Nat.le_of_ble_eq_true rfl) ?_
  show jx_W _ _ 31 6184 _ _ _ jma_62
  refine jr_putR rfl rfl rfl rfl rfl rfl rfl ?_
  show jx_W _ _ 31 6184 _ _ _ jma_63
  refine jr_aload rfl rfl ?_
  refine jr_ic rfl ?_
  refine jr_newa (a := 95) (len := 90) rfl rfl (by decide) rfl (Nat.le_of_ble_eq_true rfl) (show _ = nI 90 from rfl) jma_q63 (Nat.le_of_ble_eq_true rfl) (Nat.le_of_ble_eq_true rfl) ?_
  show jx_W _ _ 32 6274 _ _ _ jma_64
  refine jr_putR rfl rfl rfl rfl rfl rfl rfl ?_
  show jx_W _ _ 32 6274 _ _ _ jma_65
  refine jr_aload rfl rfl ?_
  refine jr_ic rfl ?_
  refine jr_newa (a := 96) (len := 90) rfl rfl (by decide) rfl (Nat.le_of_ble_eq_true rfl) (show _ = nI 90 from rfl) jma_q65 (Nat.le_of_ble_eq_true rfl) (Nat.le_of_ble_eq_true rfl) ?_
  show jx_W _ _ 33 6364 _ _ _ jma_66
  refine jr_putR rfl rfl rfl rfl rfl rfl rfl ?_
  show jx_W _ _ 33 6364 _ _ _ jma_67
  refine jr_aload rfl rfl ?_
  refine jr_ic rfl ?_
  refine jr_newa (a := 97) (len := 60) rfl rfl (by decide) rfl (Nat.le_of_ble_eq_true rfl) (show _ = nI 60 from rfl) jma_q67 (Nat.le_of_ble_eq_true rfl) (Nat.le_of_ble_eq_true rfl) ?_
  show jx_W _ _ 34 6424 _ _ _ jma_68
  refine jr_putR rfl rfl rfl rfl rfl rfl rfl ?_
  show jx_W _ _ 34 6424 _ _ _ jma_69
  refine jr_aload rfl rfl ?_
  refine jr_ic rfl ?_
  refine jr_newa (a := 98) (len := 337) rfl rfl (by decide) rfl (Nat.le_of_ble_eq_true rfl) (show _ = nI 337 from rfl) jma_q69 (Nat.le_of_ble_eq_true rfl) (Nat.le_of_ble_eq_true rfl) ?_
  show jx_W _ _ 35 6761 _ _ _ jma_70
  refine jr_putR rfl rfl rfl rfl rfl rfl rfl ?_
  show jx_W _ _ 35 6761 _ _ _ jma_71
  refine jr_aload rfl rfl ?_
  refine jr_ic rfl ?_
  refine jr_newa (a := 99) (len := 37) rfl rfl (by decide) rfl (Nat.le_of_ble_eq_true rfl) (show _ = nI 37 from rfl) jma_q71 (Nat.le_of_ble_eq_true rfl) (Nat.le_of_ble_eq_true rfl) ?_
  show jx_W _ _ 36 6798 _ _ _ jma_72
  refine jr_putR rfl rfl rfl rfl rfl rfl rfl ?_
  show jx_W _ _ 36 6798 _ _ _ jma_73
  refine jr_aload rfl rfl ?_
  refine jr_ic rfl ?_
  refine jr_newa (a := 100) (len := 32) rfl rfl (by decide) rfl (Nat.le_of_ble_eq_true rfl) (show _ = nI 32 from rfl) jma_q73 (Nat.le_of_ble_eq_true rfl) (Nat.le_of_ble_eq_true rfl) ?_
  show jx_W _ _ 37 6830 _ _ _ jma_74
  refine jr_putR rfl rfl rfl rfl rfl rfl rfl ?_
  show jx_W _ _ 37 6830 _ _ _ jma_75
  refine jr_aload rfl rfl ?_
  refine jr_ic rfl ?_
  refine jr_newa (a := 101) (len := 5) rfl rfl (by decide) rfl (Nat.le_of_ble_eq_true rfl) (show _ = nI 5 from rfl) jma_q75 (Nat.le_of_ble_eq_true rfl) (Nat.le_of_ble_eq_true rfl) ?_
  show jx_W _ _ 38 6835 _ _ _ jma_76
  refine jr_putR rfl rfl rfl rfl rfl rfl rfl ?_
  show jx_W _ _ 38 6835 _ _ _ jma_77
  refine jr_aload rfl rfl ?_
  refine jr_ic rfl ?_
  refine jr_newa (a := 102) (len := 32) rfl rfl (by decide) rfl (Nat.le_of_ble_eq_true rfl) (show _ = nI 32 from rfl) jma_q77 (Nat.le_of_ble_eq_true rfl) (Nat.le_of_ble_eq_true rfl) ?_
  show jx_W _ _ 39 6867 _ _ _ jma_78
  refine jr_putR rfl rfl rfl rfl rfl rfl rfl ?_
  show jx_W _ _ 39 6867 _ _ _ jma_79
  refine jr_aload rfl rfl ?_
  refine jr_ic rfl ?_
  refine jr_newa (a := 103) (len := 13817) rfl rfl (by decide) rfl (Nat.le_of_ble_eq_true rfl) (show _ = nI 13817 from rfl) jma_q79 (Nat.le_of_ble_eq_true rfl) (Nat.le_of_ble_eq_true rfl) ?_
  show jx_W _ _ 40 20684 _ _ _ jma_80
  refine jr_putR rfl rfl rfl rfl rfl rfl rfl ?_
  show jx_W _ _ 40 20684 _ _ _ jma_81
  refine jr_aload rfl rfl ?_
  refine jr_ic rfl ?_
  refine jr_newa (a := 104) (len := 5) rfl rfl (by decide) rfl (Nat.le_of_ble_eq_true rfl) (show _ = nI 5 from rfl) jma_q81 (Nat.le_of_ble_eq_true rfl) (Nat.le_of_ble_eq_true rfl) ?_
  show jx_W _ _ 41 20689 _ _ _ jma_82
  refine jr_putR rfl rfl rfl rfl rfl rfl rfl ?_
  show jx_W _ _ 41 20689 _ _ _ jma_83
  refine jr_aload rfl rfl ?_
  refine jr_ic rfl ?_
  refine jr_newa (a := 105) (len := 5) rfl rfl (by decide) rfl (Nat.le_of_ble_eq_true rfl) (show _ = nI 5 from rfl) jma_q83 (Nat.le_of_ble_eq_true rfl) (Nat.le_of_ble_eq_true rfl) ?_
  show jx_W _ _ 42 20694 _ _ _ jma_84
  refine jr_putR rfl rfl rfl rfl rfl rfl rfl ?_
  show jx_W _ _ 42 20694 _ _ _ jma_85
  refine jr_aload rfl rfl ?_
  refine jr_ic rfl ?_
  refine jr_newa (a := 106) (len := 8) rfl rfl (by decide) rfl (Nat.le_of_ble_eq_true rfl) (show _ = nI 8 from rfl) jma_q85 (Nat.le_of_ble_eq_true rfl) (Nat.le_of_ble_eq_true rfl) ?_
  show jx_W _ _ 43 20702 _ _ _ jma_86
  refine jr_putR rfl rfl rfl rfl rfl rfl rfl ?_
  show jx_W _ _ 43 20702 _ _ _ jma_87
  refine jr_aload rfl rfl ?_
  refine jr_ic rfl ?_
  refine jr_newa (a := 107) (len := 4) rfl rfl (by decide) rfl (Nat.le_of_ble_eq_true rfl) (show _ = nI 4 from rfl) jma_q87 (Nat.le_of_ble_eq_true rfl) (Nat.le_of_ble_eq_true rfl) ?_
  show jx_W _ _ 44 20706 _ _ _ jma_88
  refine jr_putR rfl rfl rfl rfl rfl rfl rfl ?_
  show jx_W _ _ 44 20706 _ _ _ jma_89
  refine jr_aload rfl rfl ?_
  refine jr_ic rfl ?_
  refine jr_newa (a := 108) (len := 4) rfl rfl (by decide) rfl (Nat.le_of_ble_eq_true rfl) (show _ = nI 4 from rfl) jma_q89 (Nat.le_of_ble_eq_true rfl) (Nat.le_of_ble_eq_true rfl) ?_
  show jx_W _ _ 45 20710 _ _ _ jma_90
  refine jr_putR rfl rfl rfl rfl rfl rfl rfl ?_
  show jx_W _ _ 45 20710 _ _ _ jma_91
  refine jr_aload rfl rfl ?_
  refine jr_ic rfl ?_
  refine jr_newa (a := 109) (len := 5) rfl rfl (by decide) rfl (Nat.le_of_ble_eq_true rfl) (show _ = nI 5 from rfl) jma_q91 (Nat.le_of_ble_eq_true rfl) (Nat.le_of_ble_eq_true rfl) ?_
  show jx_W _ _ 46 20715 _ _ _ jma_92
  refine jr_putR rfl rfl rfl rfl rfl rfl rfl ?_
  show jx_W _ _ 46 20715 _ _ _ jma_93
  refine jr_aload rfl rfl ?_
  refine jr_ic rfl ?_
  refine jr_newa (a := 110) (len := 148) rfl rfl (by decide) rfl (Nat.le_of_ble_eq_true rfl) (show _ = nI 148 from rfl) jma_q93 (Nat.le_of_ble_eq_true rfl) (Nat.le_of_ble_eq_true rfl) ?_
  show jx_W _ _ 47 20863 _ _ _ jma_94
  refine jr_putR rfl rfl rfl rfl rfl rfl rfl ?_
  show jx_W _ _ 47 20863 _ _ _ jma_95
  refine jr_aload rfl rfl ?_
  refine jr_ic rfl ?_
  refine jr_newa (a := 111) (len := 128) rfl rfl (by decide) rfl (Nat.le_of_ble_eq_true rfl) (show _ = nI 128 from rfl) jma_q95 (Nat.le_of_ble_eq_true rfl) (Nat.le_of_ble_eq_true rfl) ?_
  show jx_W _ _ 48 20991 _ _ _ jma_96
  refine jr_putR rfl rfl rfl rfl rfl rfl rfl ?_
  show jx_W _ _ 48 20991 _ _ _ jma_97
  refine jr_aload rfl rfl ?_
  refine jr_ic rfl ?_
  refine jr_newa (a := 112) (len := 186) rfl rfl (by decide) rfl (Nat.le_of_ble_eq_true rfl) (show _ = nI 186 from rfl) jma_q97 (Nat.le_of_ble_eq_true rfl) (Nat.le_of_ble_eq_true rfl) ?_
  show jx_W _ _ 49 21177 _ _ _ jma_98
  refine jr_putR rfl rfl rfl rfl rfl rfl rfl ?_
  show jx_W _ _ 49 21177 _ _ _ jma_99
  refine jr_aload rfl rfl ?_
  refine jr_ic rfl ?_
  refine jr_newa (a := 113) (len := 30) rfl rfl (by decide) rfl (Nat.le_of_ble_eq_true rfl) (show _ = nI 30 from rfl) jma_q99 (Nat.le_of_ble_eq_true rfl) (Nat.le_of_ble_eq_true rfl) ?_
  show jx_W _ _ 50 21207 _ _ _ jma_100
  refine jr_putR rfl rfl rfl rfl rfl rfl rfl ?_
  show jx_W _ _ 50 21207 _ _ _ jma_101
  refine jr_aload rfl rfl ?_
  refine jr_ic rfl ?_
  refine jr_newa (a := 114) (len := 30) rfl rfl (by decide) rfl (Nat.le_of_ble_eq_true rfl) (show _ = nI 30 from rfl) jma_q101 (Nat.le_of_ble_eq_true rfl) (Nat.le_of_ble_eq_true rfl) ?_
  show jx_W _ _ 51 21237 _ _ _ jma_102
  refine jr_putR rfl rfl rfl rfl rfl rfl rfl ?_
  show jx_W _ _ 51 21237 _ _ _ jma_103
  refine jr_aload rfl rfl ?_
  refine jr_ic rfl ?_
  refine jr_newa (a := 115) (len := 30) rfl rfl (by decide) rfl (Nat.le_of_ble_eq_true rfl) (show _ = nI 30 from rfl) jma_q103 (Nat.le_of_ble_eq_true rfl) (Nat.le_of_ble_eq_true rfl) ?_
  show jx_W _ _ 52 21267 _ _ _ jma_104
  refine jr_putR rfl rfl rfl rfl rfl rfl rfl ?_
  show jx_W _ _ 52 21267 _ _ _ jma_105
  refine jr_aload rfl rfl ?_
  refine jr_ic rfl ?_
  refine jr_newa (a := 116) (len := 30) rfl rfl (by decide) rfl (Nat.le_of_ble_eq_true rfl) (show _ = nI 30 from rfl) jma_q105 (Nat.le_of_ble_eq_true rfl) (Nat.le_of_ble_eq_true rfl) ?_
  show jx_W _ _ 53 21297 _ _ _ jma_106
  refine jr_putR rfl rfl rfl rfl rfl rfl rfl ?_
  show jx_W _ _ 53 21297 _ _ _ jma_107
  refine jr_aload rfl rfl ?_
  refine jr_ic rfl ?_
  refine jr_newa (a := 117) (len := 30) rfl rfl (by decide) rfl (Nat.le_of_ble_eq_true rfl) (show _ = nI 30 from rfl) jma_q107 (Nat.le_of_ble_eq_true rfl) (Nat.le_of_ble_eq_true rfl) ?_
  show jx_W _ _ 54 21327 _ _ _ jma_108
  refine jr_putR rfl rfl rfl rfl rfl rfl rfl ?_
  show jx_W _ _ 54 21327 _ _ _ jma_109
  refine jr_aload rfl rfl ?_
  refine jr_ic rfl ?_
  refine jr_newa (a := 118) (len := 5) rfl rfl (by decide) rfl (Nat.le_of_ble_eq_true rfl) (show _ = nI 5 from rfl) jma_q109 (Nat.le_of_ble_eq_true rfl) (Nat.le_of_ble_eq_true rfl) ?_
  show jx_W _ _ 55 21332 _ _ _ jma_110
  refine jr_putR rfl rfl rfl rfl rfl rfl rfl ?_
  show jx_W _ _ 55 21332 _ _ _ jma_111
  refine jr_aload rfl rfl ?_
  refine jr_ic rfl ?_
  refine jr_newa (a := 119) (len := 5) rfl rfl (by decide) rfl (Nat.le_of_ble_eq_true rfl) (show _ = nI 5 from rfl) jma_q111 (Nat.le_of_ble_eq_true rfl) (Nat.le_of_ble_eq_true rfl) ?_
  show jx_W _ _ 56 21337 _ _ _ jma_112
  refine jr_putR rfl rfl rfl rfl rfl rfl rfl ?_
  show jx_W _ _ 56 21337 _ _ _ jma_113
  refine jr_aload rfl rfl ?_
  refine jr_ic rfl ?_
  refine jr_newa (a := 120) (len := 5) rfl rfl (by decide) rfl (Nat.le_of_ble_eq_true rfl) (show _ = nI 5 from rfl) jma_q113 (Nat.le_of_ble_eq_true rfl) (Nat.le_of_ble_eq_true rfl) ?_
  show jx_W _ _ 57 21342 _ _ _ jma_114
  refine jr_putR rfl rfl rfl rfl rfl rfl rfl ?_
  show jx_W _ _ 57 21342 _ _ _ jma_115
  refine jr_aload rfl rfl ?_
  refine jr_ic rfl ?_
  refine jr_newa (a := 121) (len := 1011) rfl rfl (by decide) rfl (Nat.le_of_ble_eq_true rfl) (show _ = nI 1011 from rfl) jma_q115 (Nat.le_of_ble_eq_true rfl) (Nat.le_of_ble_eq_true rfl) ?_
  show jx_W _ _ 58 22353 _ _ _ jma_116
  refine jr_putR rfl rfl rfl rfl rfl rfl rfl ?_
  show jx_W _ _ 58 22353 _ _ _ jma_117
  refine jr_aload rfl rfl ?_
  refine jr_ic rfl ?_
  refine jr_newa (a := 122) (len := 3) rfl rfl (by decide) rfl (Nat.le_of_ble_eq_true rfl) (show _ = nI 3 from rfl) jma_q117 (Nat.le_of_ble_eq_true rfl) (Nat.le_of_ble_eq_true rfl) ?_
  show jx_W _ _ 59 22356 _ _ _ jma_118
  refine jr_putR rfl rfl rfl rfl rfl rfl rfl ?_
  show jx_W _ _ 59 22356 _ _ _ jma_119
  refine jr_aload rfl rfl ?_
  refine jr_cv0 (mc' := 0) (ms' := 0) rfl jm_MD_clearBank_n jm_MD_clearBank_f rfl rfl rfl rfl rfl rfl rfl (Nat.le_of_ble_eq_true rfl) (Nat.le_of_ble_eq_true rfl) ?_
  refine ek_MD_clearBank_1 ?_
  show jx_W _ _ 59 22356 _ _ _ jma_136
  refine jr_aload rfl rfl ?_
  refine jr_cv0 (mc' := 0) (ms' := 0) rfl jm_MD_begin_n jm_MD_begin_f rfl rfl rfl rfl rfl rfl rfl (Nat.le_of_ble_eq_true rfl) (Nat.le_of_ble_eq_true rfl) ?_
  refine ek_MD_begin_1 ?_
  show jx_W _ _ 59 22356 _ _ _ jma_139
  refine jr_ic rfl ?_
  refine jr_ist1 rfl rfl ?_
  refine jr_iload rfl rfl ?_
  refine jr_ic rfl ?_
  refine jr_icmp_ge rfl (fun z => absurd z (by decide +kernel)) (fun _ => ?_)
  refine jr_aload rfl rfl ?_
  refine jr_getR rfl rfl rfl rfl (Or.inr (by decide +kernel)) ?_
  refine jr_iload rfl rfl ?_
  refine jr_ic rfl ?_
  refine jr_zast (len := 3) rfl rfl (show _ = nI 0 from rfl) (Nat.le_of_ble_eq_true rfl) ?_
  show jx_W _ _ 59 22356 _ _ _ jma_140
  refine jr_iinc1 rfl rfl ?_
  refine jr_goto rfl ?_
  refine jr_iload rfl rfl ?_
  refine jr_ic rfl ?_
  refine jr_icmp_ge rfl (fun z => absurd z (by decide +kernel)) (fun _ => ?_)
  refine jr_aload rfl rfl ?_
  refine jr_getR rfl rfl rfl rfl (Or.inr (by decide +kernel)) ?_
  refine jr_iload rfl rfl ?_
  refine jr_ic rfl ?_
  refine jr_zast (len := 3) rfl rfl (show _ = nI 1 from rfl) (Nat.le_of_ble_eq_true rfl) ?_
  show jx_W _ _ 59 22356 _ _ _ jma_141
  refine jr_iinc1 rfl rfl ?_
  refine jr_goto rfl ?_
  refine jr_iload rfl rfl ?_
  refine jr_ic rfl ?_
  refine jr_icmp_ge rfl (fun z => absurd z (by decide +kernel)) (fun _ => ?_)
  refine jr_aload rfl rfl ?_
  refine jr_getR rfl rfl rfl rfl (Or.inr (by decide +kernel)) ?_
  refine jr_iload rfl rfl ?_
  refine jr_ic rfl ?_
  refine jr_zast (len := 3) rfl rfl (show _ = nI 2 from rfl) (Nat.le_of_ble_eq_true rfl) ?_
  show jx_W _ _ 59 22356 _ _ _ jma_142
  refine jr_iinc1 rfl rfl ?_
  refine jr_goto rfl ?_
  refine jr_iload rfl rfl ?_
  refine jr_ic rfl ?_
  refine jr_icmp_ge rfl (fun _ => ?_) (fun z => absurd (by decide +kernel) z)
  exact jr_vret rfl rfl (Nat.le_of_ble_eq_true rfl) (Nat.le_of_ble_eq_true rfl) hQ

