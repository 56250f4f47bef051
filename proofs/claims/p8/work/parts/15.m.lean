def sgn (f : Nat → Int32) (size k : Int32) : Int32 := if k.toInt < size.toInt then f k.toNatClampNeg &&& 255 else 0
theorem dX10_clearBank_0 : decode cX10_clearBank 0 = .ok (.aload_n 0, 1) := by decide +kernel
theorem dX10_clearBank_1 : decode cX10_clearBank 1 = .ok (.getfield 109, 3) := by decide +kernel
set_option maxRecDepth 100000 in
theorem wf_X10_109 : Cond.fieldLink RX10 109 "StoneTrustModel" "isArms" "[Z" ∈ gw := gm (List.mem_of_getElem? (i := 1266) (by decide +kernel)) rfl
theorem dX10_clearBank_4 : decode cX10_clearBank 4 = .ok (.aload_n 0, 1) := by decide +kernel
theorem dX10_clearBank_5 : decode cX10_clearBank 5 = .ok (.getfield 243, 3) := by decide +kernel
set_option maxRecDepth 100000 in
theorem wf_X10_243 : Cond.fieldLink RX10 243 "StoneTrustModel" "rb" "I" ∈ gw := gm (List.mem_of_getElem? (i := 1296) (by decide +kernel)) rfl
theorem dX10_clearBank_8 : decode cX10_clearBank 8 = .ok (.iconst 0, 1) := by decide +kernel
theorem dX10_clearBank_9 : decode cX10_clearBank 9 = .ok (.bastore, 1) := by decide +kernel
theorem dX10_clearBank_10 : decode cX10_clearBank 10 = .ok (.aload_n 0, 1) := by decide +kernel
theorem dX10_clearBank_11 : decode cX10_clearBank 11 = .ok (.getfield 113, 3) := by decide +kernel
set_option maxRecDepth 100000 in
theorem wf_X10_113 : Cond.fieldLink RX10 113 "StoneTrustModel" "isFeel" "[Z" ∈ gw := gm (List.mem_of_getElem? (i := 1267) (by decide +kernel)) rfl
theorem dX10_clearBank_14 : decode cX10_clearBank 14 = .ok (.aload_n 0, 1) := by decide +kernel
theorem dX10_clearBank_15 : decode cX10_clearBank 15 = .ok (.getfield 243, 3) := by decide +kernel
theorem dX10_clearBank_18 : decode cX10_clearBank 18 = .ok (.iconst 0, 1) := by decide +kernel
theorem dX10_clearBank_19 : decode cX10_clearBank 19 = .ok (.bastore, 1) := by decide +kernel
theorem dX10_clearBank_20 : decode cX10_clearBank 20 = .ok (.aload_n 0, 1) := by decide +kernel
theorem dX10_clearBank_21 : decode cX10_clearBank 21 = .ok (.getfield 122, 3) := by decide +kernel
set_option maxRecDepth 100000 in
theorem wf_X10_122 : Cond.fieldLink RX10 122 "StoneTrustModel" "armLow" "[I" ∈ gw := gm (List.mem_of_getElem? (i := 1270) (by decide +kernel)) rfl
theorem dX10_clearBank_24 : decode cX10_clearBank 24 = .ok (.aload_n 0, 1) := by decide +kernel
theorem dX10_clearBank_25 : decode cX10_clearBank 25 = .ok (.getfield 243, 3) := by decide +kernel
theorem dX10_clearBank_28 : decode cX10_clearBank 28 = .ok (.bipush 100, 2) := by decide +kernel
theorem dX10_clearBank_30 : decode cX10_clearBank 30 = .ok (.iastore, 1) := by decide +kernel
theorem dX10_clearBank_31 : decode cX10_clearBank 31 = .ok (.aload_n 0, 1) := by decide +kernel
theorem dX10_clearBank_32 : decode cX10_clearBank 32 = .ok (.getfield 126, 3) := by decide +kernel
set_option maxRecDepth 100000 in
theorem wf_X10_126 : Cond.fieldLink RX10 126 "StoneTrustModel" "armHigh" "[I" ∈ gw := gm (List.mem_of_getElem? (i := 1271) (by decide +kernel)) rfl
theorem dX10_clearBank_35 : decode cX10_clearBank 35 = .ok (.aload_n 0, 1) := by decide +kernel
theorem dX10_clearBank_36 : decode cX10_clearBank 36 = .ok (.getfield 243, 3) := by decide +kernel
theorem dX10_clearBank_39 : decode cX10_clearBank 39 = .ok (.bipush 100, 2) := by decide +kernel
theorem dX10_clearBank_41 : decode cX10_clearBank 41 = .ok (.iastore, 1) := by decide +kernel
theorem dX10_clearBank_42 : decode cX10_clearBank 42 = .ok (.aload_n 0, 1) := by decide +kernel
theorem dX10_clearBank_43 : decode cX10_clearBank 43 = .ok (.getfield 129, 3) := by decide +kernel
set_option maxRecDepth 100000 in
theorem wf_X10_129 : Cond.fieldLink RX10 129 "StoneTrustModel" "feel" "[I" ∈ gw := gm (List.mem_of_getElem? (i := 1272) (by decide +kernel)) rfl
theorem dX10_clearBank_46 : decode cX10_clearBank 46 = .ok (.aload_n 0, 1) := by decide +kernel
theorem dX10_clearBank_47 : decode cX10_clearBank 47 = .ok (.getfield 243, 3) := by decide +kernel
theorem dX10_clearBank_50 : decode cX10_clearBank 50 = .ok (.iconst 0, 1) := by decide +kernel
theorem dX10_clearBank_51 : decode cX10_clearBank 51 = .ok (.iastore, 1) := by decide +kernel
theorem dX10_clearBank_52 : decode cX10_clearBank 52 = .ok (.aload_n 0, 1) := by decide +kernel
theorem dX10_clearBank_53 : decode cX10_clearBank 53 = .ok (.getfield 138, 3) := by decide +kernel
set_option maxRecDepth 100000 in
theorem wf_X10_138 : Cond.fieldLink RX10 138 "StoneTrustModel" "stones" "[I" ∈ gw := gm (List.mem_of_getElem? (i := 1275) (by decide +kernel)) rfl
theorem dX10_clearBank_56 : decode cX10_clearBank 56 = .ok (.aload_n 0, 1) := by decide +kernel
theorem dX10_clearBank_57 : decode cX10_clearBank 57 = .ok (.getfield 243, 3) := by decide +kernel
theorem dX10_clearBank_60 : decode cX10_clearBank 60 = .ok (.iconst 0, 1) := by decide +kernel
theorem dX10_clearBank_61 : decode cX10_clearBank 61 = .ok (.iastore, 1) := by decide +kernel
theorem dX10_clearBank_62 : decode cX10_clearBank 62 = .ok (.aload_n 0, 1) := by decide +kernel
theorem dX10_clearBank_63 : decode cX10_clearBank 63 = .ok (.getfield 159, 3) := by decide +kernel
set_option maxRecDepth 100000 in
theorem wf_X10_159 : Cond.fieldLink RX10 159 "StoneTrustModel" "weighs" "[I" ∈ gw := gm (List.mem_of_getElem? (i := 1282) (by decide +kernel)) rfl
theorem dX10_clearBank_66 : decode cX10_clearBank 66 = .ok (.aload_n 0, 1) := by decide +kernel
theorem dX10_clearBank_67 : decode cX10_clearBank 67 = .ok (.getfield 243, 3) := by decide +kernel
theorem dX10_clearBank_70 : decode cX10_clearBank 70 = .ok (.iconst 0, 1) := by decide +kernel
theorem dX10_clearBank_71 : decode cX10_clearBank 71 = .ok (.iastore, 1) := by decide +kernel
theorem dX10_clearBank_72 : decode cX10_clearBank 72 = .ok (.aload_n 0, 1) := by decide +kernel
theorem dX10_clearBank_73 : decode cX10_clearBank 73 = .ok (.getfield 162, 3) := by decide +kernel
set_option maxRecDepth 100000 in
theorem wf_X10_162 : Cond.fieldLink RX10 162 "StoneTrustModel" "sales" "[I" ∈ gw := gm (List.mem_of_getElem? (i := 1283) (by decide +kernel)) rfl
theorem dX10_clearBank_76 : decode cX10_clearBank 76 = .ok (.aload_n 0, 1) := by decide +kernel
theorem dX10_clearBank_77 : decode cX10_clearBank 77 = .ok (.getfield 243, 3) := by decide +kernel
theorem dX10_clearBank_80 : decode cX10_clearBank 80 = .ok (.iconst 0, 1) := by decide +kernel
theorem dX10_clearBank_81 : decode cX10_clearBank 81 = .ok (.iastore, 1) := by decide +kernel
theorem dX10_clearBank_82 : decode cX10_clearBank 82 = .ok (.aload_n 0, 1) := by decide +kernel
theorem dX10_clearBank_83 : decode cX10_clearBank 83 = .ok (.getfield 165, 3) := by decide +kernel
set_option maxRecDepth 100000 in
theorem wf_X10_165 : Cond.fieldLink RX10 165 "StoneTrustModel" "lines" "[I" ∈ gw := gm (List.mem_of_getElem? (i := 1284) (by decide +kernel)) rfl
theorem dX10_clearBank_86 : decode cX10_clearBank 86 = .ok (.aload_n 0, 1) := by decide +kernel
theorem dX10_clearBank_87 : decode cX10_clearBank 87 = .ok (.getfield 243, 3) := by decide +kernel
theorem dX10_clearBank_90 : decode cX10_clearBank 90 = .ok (.iconst 0, 1) := by decide +kernel
theorem dX10_clearBank_91 : decode cX10_clearBank 91 = .ok (.iastore, 1) := by decide +kernel
theorem dX10_clearBank_92 : decode cX10_clearBank 92 = .ok (.iconst 2, 1) := by decide +kernel
theorem dX10_clearBank_93 : decode cX10_clearBank 93 = .ok (.aload_n 0, 1) := by decide +kernel
theorem dX10_clearBank_94 : decode cX10_clearBank 94 = .ok (.getfield 243, 3) := by decide +kernel
theorem dX10_clearBank_97 : decode cX10_clearBank 97 = .ok (.imul, 1) := by decide +kernel
theorem dX10_clearBank_98 : decode cX10_clearBank 98 = .ok (.istore_n 1, 1) := by decide +kernel
theorem dX10_clearBank_99 : decode cX10_clearBank 99 = .ok (.iload_n 1, 1) := by decide +kernel
theorem dX10_clearBank_100 : decode cX10_clearBank 100 = .ok (.iconst 2, 1) := by decide +kernel
theorem dX10_clearBank_101 : decode cX10_clearBank 101 = .ok (.aload_n 0, 1) := by decide +kernel
theorem dX10_clearBank_102 : decode cX10_clearBank 102 = .ok (.getfield 243, 3) := by decide +kernel
theorem dX10_clearBank_105 : decode cX10_clearBank 105 = .ok (.imul, 1) := by decide +kernel
theorem dX10_clearBank_106 : decode cX10_clearBank 106 = .ok (.iconst 2, 1) := by decide +kernel
theorem dX10_clearBank_107 : decode cX10_clearBank 107 = .ok (.iadd, 1) := by decide +kernel
theorem dX10_clearBank_108 : decode cX10_clearBank 108 = .ok (.if_icmp .ge 32, 3) := by decide +kernel
theorem dX10_clearBank_111 : decode cX10_clearBank 111 = .ok (.aload_n 0, 1) := by decide +kernel
theorem dX10_clearBank_112 : decode cX10_clearBank 112 = .ok (.getfield 116, 3) := by decide +kernel
set_option maxRecDepth 100000 in
theorem wf_X10_116 : Cond.fieldLink RX10 116 "StoneTrustModel" "isPound" "[Z" ∈ gw := gm (List.mem_of_getElem? (i := 1268) (by decide +kernel)) rfl
theorem dX10_clearBank_115 : decode cX10_clearBank 115 = .ok (.iload_n 1, 1) := by decide +kernel
theorem dX10_clearBank_116 : decode cX10_clearBank 116 = .ok (.iconst 0, 1) := by decide +kernel
theorem dX10_clearBank_117 : decode cX10_clearBank 117 = .ok (.bastore, 1) := by decide +kernel
theorem dX10_clearBank_118 : decode cX10_clearBank 118 = .ok (.aload_n 0, 1) := by decide +kernel
theorem dX10_clearBank_119 : decode cX10_clearBank 119 = .ok (.getfield 132, 3) := by decide +kernel
set_option maxRecDepth 100000 in
theorem wf_X10_132 : Cond.fieldLink RX10 132 "StoneTrustModel" "poundLow" "[I" ∈ gw := gm (List.mem_of_getElem? (i := 1273) (by decide +kernel)) rfl
theorem dX10_clearBank_122 : decode cX10_clearBank 122 = .ok (.iload_n 1, 1) := by decide +kernel
theorem dX10_clearBank_123 : decode cX10_clearBank 123 = .ok (.bipush 16, 2) := by decide +kernel
theorem dX10_clearBank_125 : decode cX10_clearBank 125 = .ok (.iastore, 1) := by decide +kernel
theorem dX10_clearBank_126 : decode cX10_clearBank 126 = .ok (.aload_n 0, 1) := by decide +kernel
theorem dX10_clearBank_127 : decode cX10_clearBank 127 = .ok (.getfield 135, 3) := by decide +kernel
set_option maxRecDepth 100000 in
theorem wf_X10_135 : Cond.fieldLink RX10 135 "StoneTrustModel" "poundHigh" "[I" ∈ gw := gm (List.mem_of_getElem? (i := 1274) (by decide +kernel)) rfl
theorem dX10_clearBank_130 : decode cX10_clearBank 130 = .ok (.iload_n 1, 1) := by decide +kernel
theorem dX10_clearBank_131 : decode cX10_clearBank 131 = .ok (.bipush 16, 2) := by decide +kernel
theorem dX10_clearBank_133 : decode cX10_clearBank 133 = .ok (.iastore, 1) := by decide +kernel
theorem dX10_clearBank_134 : decode cX10_clearBank 134 = .ok (.iinc 1 1, 3) := by decide +kernel
theorem dX10_clearBank_137 : decode cX10_clearBank 137 = .ok (.goto (-38), 3) := by decide +kernel
theorem dX10_clearBank_140 : decode cX10_clearBank 140 = .ok (.bipush 6, 2) := by decide +kernel
theorem dX10_clearBank_142 : decode cX10_clearBank 142 = .ok (.aload_n 0, 1) := by decide +kernel
theorem dX10_clearBank_143 : decode cX10_clearBank 143 = .ok (.getfield 243, 3) := by decide +kernel
theorem dX10_clearBank_146 : decode cX10_clearBank 146 = .ok (.imul, 1) := by decide +kernel
theorem dX10_clearBank_147 : decode cX10_clearBank 147 = .ok (.istore_n 1, 1) := by decide +kernel
theorem dX10_clearBank_148 : decode cX10_clearBank 148 = .ok (.iload_n 1, 1) := by decide +kernel
theorem dX10_clearBank_149 : decode cX10_clearBank 149 = .ok (.bipush 6, 2) := by decide +kernel
theorem dX10_clearBank_151 : decode cX10_clearBank 151 = .ok (.aload_n 0, 1) := by decide +kernel
theorem dX10_clearBank_152 : decode cX10_clearBank 152 = .ok (.getfield 243, 3) := by decide +kernel
theorem dX10_clearBank_155 : decode cX10_clearBank 155 = .ok (.imul, 1) := by decide +kernel
theorem dX10_clearBank_156 : decode cX10_clearBank 156 = .ok (.bipush 6, 2) := by decide +kernel
theorem dX10_clearBank_158 : decode cX10_clearBank 158 = .ok (.iadd, 1) := by decide +kernel
theorem dX10_clearBank_159 : decode cX10_clearBank 159 = .ok (.if_icmp .ge 16, 3) := by decide +kernel
theorem dX10_clearBank_162 : decode cX10_clearBank 162 = .ok (.aload_n 0, 1) := by decide +kernel
theorem dX10_clearBank_163 : decode cX10_clearBank 163 = .ok (.getfield 119, 3) := by decide +kernel
set_option maxRecDepth 100000 in
theorem wf_X10_119 : Cond.fieldLink RX10 119 "StoneTrustModel" "isMaster" "[Z" ∈ gw := gm (List.mem_of_getElem? (i := 1269) (by decide +kernel)) rfl
theorem dX10_clearBank_166 : decode cX10_clearBank 166 = .ok (.iload_n 1, 1) := by decide +kernel
theorem dX10_clearBank_167 : decode cX10_clearBank 167 = .ok (.iconst 0, 1) := by decide +kernel
theorem dX10_clearBank_168 : decode cX10_clearBank 168 = .ok (.bastore, 1) := by decide +kernel
theorem dX10_clearBank_169 : decode cX10_clearBank 169 = .ok (.iinc 1 1, 3) := by decide +kernel
theorem dX10_clearBank_172 : decode cX10_clearBank 172 = .ok (.goto (-24), 3) := by decide +kernel
theorem dX10_clearBank_175 : decode cX10_clearBank 175 = .ok (.return_, 1) := by decide +kernel
set_option maxHeartbeats 4000000 in
set_option maxRecDepth 100000 in
theorem c1_X10_clearBank (l : Launch) (G : va_G) (cI cJ cB cZ : ClassId) (a0 a1 a2 a3 a4 a5 a6 a7 a8 a9 a10 a11 a12 a13 a14 a15 a16 a17 a18 a19 a20 a21 a22 a23 a24 a25 a26 a27 a28 a29 a30 a31 a32 a33 a34 a35 a36 a37 a38 a39 a40 a41 a42 : Nat) (v_m_2 : Int32) (v_m_3 : Int32) (v_m_4 : Int32) (v_m_5 : Int32) (v_m_6 : Int32) (v_m_7 : Int32) (v_m_8 : Int32) (v_m_9 : Int32) (w_m_10 : Int64) (v_m_44 : Int32) (v_m_45 : Int32) (v_m_46 : Int32) (v_m_47 : Int32) (v_m_49 : Int32) (v_m_53 : Int32) (v_m_54 : Int32) (v_m_55 : Int32) (v_m_56 : Int32) (v_m_57 : Int32) (v_m_58 : Int32) (v_m_59 : Int32) (v_m_60 : Int32) (v_m_62 : Int32) (v_m_67 : Int32) (v_m_68 : Int32) (v_m_armLow_0 : Int32) (v_m_armLow_1 : Int32) (v_m_armHigh_0 : Int32) (v_m_armHigh_1 : Int32) (v_m_stones_0 : Int32) (v_m_stones_1 : Int32) (v_m_weighs_0 : Int32) (v_m_weighs_1 : Int32) (v_m_sales_0 : Int32) (v_m_sales_1 : Int32) (v_m_poundLow_0 : Int32) (v_m_poundLow_1 : Int32) (v_m_poundLow_2 : Int32) (v_m_poundLow_3 : Int32) (v_m_poundHigh_0 : Int32) (v_m_poundHigh_1 : Int32) (v_m_poundHigh_2 : Int32) (v_m_poundHigh_3 : Int32) (g_m_isArms : Nat → Int32) (g_m_isFeel : Nat → Int32) (g_m_feel : Nat → Int32) (g_m_lines : Nat → Int32) (g_m_isPound : Nat → Int32) (g_m_isMaster : Nat → Int32) (gh_m_isMaster : Nat → Int32) (hv : 0 ≤ v_m_2.toInt ∧ v_m_2.toInt ≤ 1300 ∧ 0 ≤ v_m_3.toInt ∧ v_m_3.toInt ≤ 1300 ∧ 0 ≤ v_m_4.toInt ∧ v_m_4.toInt ≤ 5 ∧ 0 ≤ v_m_6.toInt ∧ v_m_6.toInt ≤ 1300 ∧ 0 ≤ v_m_7.toInt ∧ v_m_7.toInt ≤ 1301 ∧ 0 ≤ v_m_8.toInt ∧ v_m_8.toInt ≤ 5 ∧ 0 ≤ v_m_9.toInt ∧ v_m_9.toInt ≤ 9999 ∧ 0 ≤ v_m_44.toInt ∧ v_m_44.toInt ≤ 30 ∧ 0 ≤ v_m_47.toInt ∧ v_m_47.toInt ≤ 1 ∧ 0 ≤ v_m_49.toInt ∧ v_m_49.toInt ≤ 46 ∧ 0 ≤ v_m_53.toInt ∧ v_m_53.toInt ≤ 300000 ∧ 0 ≤ v_m_55.toInt ∧ v_m_55.toInt ≤ 300109 ∧ v_m_56.toInt ≤ 300000 ∧ 0 ≤ v_m_57.toInt ∧ v_m_57.toInt ≤ 1 ∧ 0 ≤ v_m_60.toInt ∧ v_m_60.toInt ≤ 1 ∧ 0 ≤ v_m_armLow_0.toInt ∧ v_m_armLow_0.toInt ≤ 110 ∧ 0 ≤ v_m_armLow_1.toInt ∧ v_m_armLow_1.toInt ≤ 110 ∧ 0 ≤ v_m_armHigh_0.toInt ∧ v_m_armHigh_0.toInt ≤ 110 ∧ 0 ≤ v_m_armHigh_1.toInt ∧ v_m_armHigh_1.toInt ≤ 110 ∧ 0 ≤ v_m_stones_0.toInt ∧ v_m_stones_0.toInt ≤ 6 ∧ 0 ≤ v_m_stones_1.toInt ∧ v_m_stones_1.toInt ≤ 6 ∧ 0 ≤ v_m_weighs_0.toInt ∧ v_m_weighs_0.toInt ≤ 16 ∧ 0 ≤ v_m_weighs_1.toInt ∧ v_m_weighs_1.toInt ≤ 16 ∧ 0 ≤ v_m_sales_0.toInt ∧ v_m_sales_0.toInt ≤ 10 ∧ 0 ≤ v_m_sales_1.toInt ∧ v_m_sales_1.toInt ≤ 10 ∧ 0 ≤ v_m_poundLow_0.toInt ∧ v_m_poundLow_0.toInt ≤ 40 ∧ 0 ≤ v_m_poundLow_1.toInt ∧ v_m_poundLow_1.toInt ≤ 40 ∧ 0 ≤ v_m_poundLow_2.toInt ∧ v_m_poundLow_2.toInt ≤ 40 ∧ 0 ≤ v_m_poundLow_3.toInt ∧ v_m_poundLow_3.toInt ≤ 40 ∧ 0 ≤ v_m_poundHigh_0.toInt ∧ v_m_poundHigh_0.toInt ≤ 40 ∧ 0 ≤ v_m_poundHigh_1.toInt ∧ v_m_poundHigh_1.toInt ≤ 40 ∧ 0 ≤ v_m_poundHigh_2.toInt ∧ v_m_poundHigh_2.toInt ≤ 40 ∧ 0 ≤ v_m_poundHigh_3.toInt ∧ v_m_poundHigh_3.toInt ≤ 40) (hT_g_m_isArms : TA 0 1 g_m_isArms) (hT_g_m_isFeel : TA 0 1 g_m_isFeel) (hT_g_m_isPound : TA 0 1 g_m_isPound) (hT_g_m_isMaster : TF 1 0 1 gh_m_isMaster g_m_isMaster) : Con l G (TY cI cJ cB cZ) yX10_clearBank cX10_clearBank 2 none ({ frames := 0, cells := 0, slots := 0, locals := 0 } : Room) [.ref a0] [(a0, .inr (10, [.ref a1, .ref a2, .int v_m_2, .int v_m_3, .int v_m_4, .int v_m_5, .int v_m_6, .int v_m_7, .int v_m_8, .int v_m_9, .long w_m_10, .ref a3, .ref a4, .ref a5, .ref a6, .ref a7, .ref a8, .ref a9, .ref a10, .ref a11, .ref a12, .ref a13, .ref a14, .ref a15, .ref a16, .ref a17, .ref a18, .ref a19, .ref a20, .ref a21, .ref a22, .ref a23, .ref a24, .ref a25, .ref a26, .ref a27, .ref a28, .ref a29, .ref a30, .ref a31, .int 0, .int 1, .ref a32, .ref a33, .int v_m_44, .int v_m_45, .int v_m_46, .int v_m_47, .ref a34, .int v_m_49, .ref a35, .ref a36, .ref a37, .int v_m_53, .int v_m_54, .int v_m_55, .int v_m_56, .int v_m_57, .int v_m_58, .int v_m_59, .int v_m_60, .ref a38, .int v_m_62, .ref a39, .ref a40, .ref a41, .ref a42, .int v_m_67, .int v_m_68])), (a3, .inl (cZ, 2, .inl g_m_isArms)), (a4, .inl (cZ, 2, .inl g_m_isFeel)), (a7, .inl (cI, 2, .inl (ex2 v_m_armLow_0 v_m_armLow_1))), (a8, .inl (cI, 2, .inl (ex2 v_m_armHigh_0 v_m_armHigh_1))), (a9, .inl (cI, 2, .inl g_m_feel)), (a12, .inl (cI, 2, .inl (ex2 v_m_stones_0 v_m_stones_1))), (a19, .inl (cI, 2, .inl (ex2 v_m_weighs_0 v_m_weighs_1))), (a20, .inl (cI, 2, .inl (ex2 v_m_sales_0 v_m_sales_1))), (a21, .inl (cI, 2, .inl g_m_lines)), (a5, .inl (cZ, 4, .inl g_m_isPound)), (a10, .inl (cI, 4, .inl (ex4 v_m_poundLow_0 v_m_poundLow_1 v_m_poundLow_2 v_m_poundLow_3))), (a11, .inl (cI, 4, .inl (ex4 v_m_poundHigh_0 v_m_poundHigh_1 v_m_poundHigh_2 v_m_poundHigh_3))), (a6, .inl (cZ, 12, .inl g_m_isMaster))] (QV G (TY cI cJ cB cZ) (fun u : Int32 × Int32 × Int32 × Int32 × Int32 × Int32 × Int32 × Int32 × Int32 × (Nat → Int32) × (Nat → Int32) × (Nat → Int32) × (Nat → Int32) × (Nat → Int32) × (Nat → Int32) => (100 ≤ u.1.toInt ∧ u.1.toInt ≤ 100 ∧ 100 ≤ u.2.1.toInt ∧ u.2.1.toInt ≤ 100 ∧ 0 ≤ u.2.2.1.toInt ∧ u.2.2.1.toInt ≤ 0 ∧ 0 ≤ u.2.2.2.1.toInt ∧ u.2.2.2.1.toInt ≤ 0 ∧ 0 ≤ u.2.2.2.2.1.toInt ∧ u.2.2.2.2.1.toInt ≤ 0 ∧ 16 ≤ u.2.2.2.2.2.1.toInt ∧ u.2.2.2.2.2.1.toInt ≤ 16 ∧ 16 ≤ u.2.2.2.2.2.2.1.toInt ∧ u.2.2.2.2.2.2.1.toInt ≤ 16 ∧ 16 ≤ u.2.2.2.2.2.2.2.1.toInt ∧ u.2.2.2.2.2.2.2.1.toInt ≤ 16 ∧ 16 ≤ u.2.2.2.2.2.2.2.2.1.toInt ∧ u.2.2.2.2.2.2.2.2.1.toInt ≤ 16) ∧ TA 0 1 u.2.2.2.2.2.2.2.2.2.1 ∧ TA 0 1 u.2.2.2.2.2.2.2.2.2.2.1 ∧ TA 0 1 u.2.2.2.2.2.2.2.2.2.2.2.2.2.1 ∧ TF 1 0 1 gh_m_isMaster u.2.2.2.2.2.2.2.2.2.2.2.2.2.2) (fun u : Int32 × Int32 × Int32 × Int32 × Int32 × Int32 × Int32 × Int32 × Int32 × (Nat → Int32) × (Nat → Int32) × (Nat → Int32) × (Nat → Int32) × (Nat → Int32) × (Nat → Int32) => [(a0, .inr (10, [.ref a1, .ref a2, .int v_m_2, .int v_m_3, .int v_m_4, .int v_m_5, .int v_m_6, .int v_m_7, .int v_m_8, .int v_m_9, .long w_m_10, .ref a3, .ref a4, .ref a5, .ref a6, .ref a7, .ref a8, .ref a9, .ref a10, .ref a11, .ref a12, .ref a13, .ref a14, .ref a15, .ref a16, .ref a17, .ref a18, .ref a19, .ref a20, .ref a21, .ref a22, .ref a23, .ref a24, .ref a25, .ref a26, .ref a27, .ref a28, .ref a29, .ref a30, .ref a31, .int 0, .int 1, .ref a32, .ref a33, .int v_m_44, .int v_m_45, .int v_m_46, .int v_m_47, .ref a34, .int v_m_49, .ref a35, .ref a36, .ref a37, .int v_m_53, .int v_m_54, .int v_m_55, .int v_m_56, .int v_m_57, .int v_m_58, .int v_m_59, .int v_m_60, .ref a38, .int v_m_62, .ref a39, .ref a40, .ref a41, .ref a42, .int v_m_67, .int v_m_68])), (a3, .inl (cZ, 2, .inl u.2.2.2.2.2.2.2.2.2.1)), (a4, .inl (cZ, 2, .inl u.2.2.2.2.2.2.2.2.2.2.1)), (a7, .inl (cI, 2, .inl (ex2 v_m_armLow_0 u.1))), (a8, .inl (cI, 2, .inl (ex2 v_m_armHigh_0 u.2.1))), (a9, .inl (cI, 2, .inl u.2.2.2.2.2.2.2.2.2.2.2.1)), (a12, .inl (cI, 2, .inl (ex2 v_m_stones_0 u.2.2.1))), (a19, .inl (cI, 2, .inl (ex2 v_m_weighs_0 u.2.2.2.1))), (a20, .inl (cI, 2, .inl (ex2 v_m_sales_0 u.2.2.2.2.1))), (a21, .inl (cI, 2, .inl u.2.2.2.2.2.2.2.2.2.2.2.2.1)), (a5, .inl (cZ, 4, .inl u.2.2.2.2.2.2.2.2.2.2.2.2.2.1)), (a10, .inl (cI, 4, .inl (ex4 v_m_poundLow_0 v_m_poundLow_1 u.2.2.2.2.2.1 u.2.2.2.2.2.2.1))), (a11, .inl (cI, 4, .inl (ex4 v_m_poundHigh_0 v_m_poundHigh_1 u.2.2.2.2.2.2.2.1 u.2.2.2.2.2.2.2.2.1))), (a6, .inl (cZ, 12, .inl u.2.2.2.2.2.2.2.2.2.2.2.2.2.2))])) := by
  refine k_met (by decide) (Nat.le_of_ble_eq_true rfl) ?_
  intro p e s m below meth c A ls hC hr hlk hnm hN hZ hK hA hP hD hS hl
  have hl : lv_has ls 2 [(0, .ref a0)] := hl
  generalize hQm : MQ below _ _ s _ _ A = Qm
  generalize (List.toArray _ : Array Value) = args at hC hQm ⊢
  obtain ⟨hx, hb, hml, hown, hts⟩ := id hC
  obtain ⟨H, hH⟩ : ∃ q, q = s.heap := ⟨_, rfl⟩
  obtain ⟨locs, hlo⟩ : ∃ q : List Loc, q = [] := ⟨_, rfl⟩
  have hP : va_P G cl [(a0, .inr (10, [.ref a1, .ref a2, .int v_m_2, .int v_m_3, .int v_m_4, .int v_m_5, .int v_m_6, .int v_m_7, .int v_m_8, .int v_m_9, .long w_m_10, .ref a3, .ref a4, .ref a5, .ref a6, .ref a7, .ref a8, .ref a9, .ref a10, .ref a11, .ref a12, .ref a13, .ref a14, .ref a15, .ref a16, .ref a17, .ref a18, .ref a19, .ref a20, .ref a21, .ref a22, .ref a23, .ref a24, .ref a25, .ref a26, .ref a27, .ref a28, .ref a29, .ref a30, .ref a31, .int 0, .int 1, .ref a32, .ref a33, .int v_m_44, .int v_m_45, .int v_m_46, .int v_m_47, .ref a34, .int v_m_49, .ref a35, .ref a36, .ref a37, .int v_m_53, .int v_m_54, .int v_m_55, .int v_m_56, .int v_m_57, .int v_m_58, .int v_m_59, .int v_m_60, .ref a38, .int v_m_62, .ref a39, .ref a40, .ref a41, .ref a42, .int v_m_67, .int v_m_68])), (a3, .inl (cZ, 2, .inl g_m_isArms)), (a4, .inl (cZ, 2, .inl g_m_isFeel)), (a7, .inl (cI, 2, .inl (ex2 v_m_armLow_0 v_m_armLow_1))), (a8, .inl (cI, 2, .inl (ex2 v_m_armHigh_0 v_m_armHigh_1))), (a9, .inl (cI, 2, .inl g_m_feel)), (a12, .inl (cI, 2, .inl (ex2 v_m_stones_0 v_m_stones_1))), (a19, .inl (cI, 2, .inl (ex2 v_m_weighs_0 v_m_weighs_1))), (a20, .inl (cI, 2, .inl (ex2 v_m_sales_0 v_m_sales_1))), (a21, .inl (cI, 2, .inl g_m_lines)), (a5, .inl (cZ, 4, .inl g_m_isPound)), (a10, .inl (cI, 4, .inl (ex4 v_m_poundLow_0 v_m_poundLow_1 v_m_poundLow_2 v_m_poundLow_3))), (a11, .inl (cI, 4, .inl (ex4 v_m_poundHigh_0 v_m_poundHigh_1 v_m_poundHigh_2 v_m_poundHigh_3))), (a6, .inl (cZ, 12, .inl g_m_isMaster))] H := by rw [hH]; exact hP
  have hS : va_S A s.heap H locs := by rw [hH, hlo]; exact hS
  rw [← hlo]
  rw [← hH]
  refine lv_aload_n hx hb dX10_clearBank_0 rfl (lv_at hl 0 rfl) ?_
  refine k_get hC hK hP iX10 0 11 wf_X10_109 rfl (by decide) rfl rfl dX10_clearBank_1 ?_
  refine lv_aload_n hx hb dX10_clearBank_4 rfl (lv_at hl 0 rfl) ?_
  refine k_get hC hK hP iX10 0 41 wf_X10_243 rfl (by decide) rfl rfl dX10_clearBank_5 ?_
  refine lv_iconst (v := 0) hx hb dX10_clearBank_8 (by decide) ?_
  refine t_zast hC hK hP hD hS 1 rfl (by decide) (by decide) hT_g_m_isArms dX10_clearBank_9 (fun f1 H locs hT_f1 hP hD hS => ?_)
  have hP : va_P G cl [(a0, .inr (10, [.ref a1, .ref a2, .int v_m_2, .int v_m_3, .int v_m_4, .int v_m_5, .int v_m_6, .int v_m_7, .int v_m_8, .int v_m_9, .long w_m_10, .ref a3, .ref a4, .ref a5, .ref a6, .ref a7, .ref a8, .ref a9, .ref a10, .ref a11, .ref a12, .ref a13, .ref a14, .ref a15, .ref a16, .ref a17, .ref a18, .ref a19, .ref a20, .ref a21, .ref a22, .ref a23, .ref a24, .ref a25, .ref a26, .ref a27, .ref a28, .ref a29, .ref a30, .ref a31, .int 0, .int 1, .ref a32, .ref a33, .int v_m_44, .int v_m_45, .int v_m_46, .int v_m_47, .ref a34, .int v_m_49, .ref a35, .ref a36, .ref a37, .int v_m_53, .int v_m_54, .int v_m_55, .int v_m_56, .int v_m_57, .int v_m_58, .int v_m_59, .int v_m_60, .ref a38, .int v_m_62, .ref a39, .ref a40, .ref a41, .ref a42, .int v_m_67, .int v_m_68])), (a3, .inl (cZ, 2, .inl f1)), (a4, .inl (cZ, 2, .inl g_m_isFeel)), (a7, .inl (cI, 2, .inl (ex2 v_m_armLow_0 v_m_armLow_1))), (a8, .inl (cI, 2, .inl (ex2 v_m_armHigh_0 v_m_armHigh_1))), (a9, .inl (cI, 2, .inl g_m_feel)), (a12, .inl (cI, 2, .inl (ex2 v_m_stones_0 v_m_stones_1))), (a19, .inl (cI, 2, .inl (ex2 v_m_weighs_0 v_m_weighs_1))), (a20, .inl (cI, 2, .inl (ex2 v_m_sales_0 v_m_sales_1))), (a21, .inl (cI, 2, .inl g_m_lines)), (a5, .inl (cZ, 4, .inl g_m_isPound)), (a10, .inl (cI, 4, .inl (ex4 v_m_poundLow_0 v_m_poundLow_1 v_m_poundLow_2 v_m_poundLow_3))), (a11, .inl (cI, 4, .inl (ex4 v_m_poundHigh_0 v_m_poundHigh_1 v_m_poundHigh_2 v_m_poundHigh_3))), (a6, .inl (cZ, 12, .inl g_m_isMaster))] H := hP
  have hD : va_D A [(a0, .inr (10, [.ref a1, .ref a2, .int v_m_2, .int v_m_3, .int v_m_4, .int v_m_5, .int v_m_6, .int v_m_7, .int v_m_8, .int v_m_9, .long w_m_10, .ref a3, .ref a4, .ref a5, .ref a6, .ref a7, .ref a8, .ref a9, .ref a10, .ref a11, .ref a12, .ref a13, .ref a14, .ref a15, .ref a16, .ref a17, .ref a18, .ref a19, .ref a20, .ref a21, .ref a22, .ref a23, .ref a24, .ref a25, .ref a26, .ref a27, .ref a28, .ref a29, .ref a30, .ref a31, .int 0, .int 1, .ref a32, .ref a33, .int v_m_44, .int v_m_45, .int v_m_46, .int v_m_47, .ref a34, .int v_m_49, .ref a35, .ref a36, .ref a37, .int v_m_53, .int v_m_54, .int v_m_55, .int v_m_56, .int v_m_57, .int v_m_58, .int v_m_59, .int v_m_60, .ref a38, .int v_m_62, .ref a39, .ref a40, .ref a41, .ref a42, .int v_m_67, .int v_m_68])), (a3, .inl (cZ, 2, .inl f1)), (a4, .inl (cZ, 2, .inl g_m_isFeel)), (a7, .inl (cI, 2, .inl (ex2 v_m_armLow_0 v_m_armLow_1))), (a8, .inl (cI, 2, .inl (ex2 v_m_armHigh_0 v_m_armHigh_1))), (a9, .inl (cI, 2, .inl g_m_feel)), (a12, .inl (cI, 2, .inl (ex2 v_m_stones_0 v_m_stones_1))), (a19, .inl (cI, 2, .inl (ex2 v_m_weighs_0 v_m_weighs_1))), (a20, .inl (cI, 2, .inl (ex2 v_m_sales_0 v_m_sales_1))), (a21, .inl (cI, 2, .inl g_m_lines)), (a5, .inl (cZ, 4, .inl g_m_isPound)), (a10, .inl (cI, 4, .inl (ex4 v_m_poundLow_0 v_m_poundLow_1 v_m_poundLow_2 v_m_poundLow_3))), (a11, .inl (cI, 4, .inl (ex4 v_m_poundHigh_0 v_m_poundHigh_1 v_m_poundHigh_2 v_m_poundHigh_3))), (a6, .inl (cZ, 12, .inl g_m_isMaster))] := hD
  refine lv_aload_n hx hb dX10_clearBank_10 rfl (lv_at hl 0 rfl) ?_
  refine k_get hC hK hP iX10 0 12 wf_X10_113 rfl (by decide) rfl rfl dX10_clearBank_11 ?_
  refine lv_aload_n hx hb dX10_clearBank_14 rfl (lv_at hl 0 rfl) ?_
  refine k_get hC hK hP iX10 0 41 wf_X10_243 rfl (by decide) rfl rfl dX10_clearBank_15 ?_
  refine lv_iconst (v := 0) hx hb dX10_clearBank_18 (by decide) ?_
  refine t_zast hC hK hP hD hS 2 rfl (by decide) (by decide) hT_g_m_isFeel dX10_clearBank_19 (fun f2 H locs hT_f2 hP hD hS => ?_)
  have hP : va_P G cl [(a0, .inr (10, [.ref a1, .ref a2, .int v_m_2, .int v_m_3, .int v_m_4, .int v_m_5, .int v_m_6, .int v_m_7, .int v_m_8, .int v_m_9, .long w_m_10, .ref a3, .ref a4, .ref a5, .ref a6, .ref a7, .ref a8, .ref a9, .ref a10, .ref a11, .ref a12, .ref a13, .ref a14, .ref a15, .ref a16, .ref a17, .ref a18, .ref a19, .ref a20, .ref a21, .ref a22, .ref a23, .ref a24, .ref a25, .ref a26, .ref a27, .ref a28, .ref a29, .ref a30, .ref a31, .int 0, .int 1, .ref a32, .ref a33, .int v_m_44, .int v_m_45, .int v_m_46, .int v_m_47, .ref a34, .int v_m_49, .ref a35, .ref a36, .ref a37, .int v_m_53, .int v_m_54, .int v_m_55, .int v_m_56, .int v_m_57, .int v_m_58, .int v_m_59, .int v_m_60, .ref a38, .int v_m_62, .ref a39, .ref a40, .ref a41, .ref a42, .int v_m_67, .int v_m_68])), (a3, .inl (cZ, 2, .inl f1)), (a4, .inl (cZ, 2, .inl f2)), (a7, .inl (cI, 2, .inl (ex2 v_m_armLow_0 v_m_armLow_1))), (a8, .inl (cI, 2, .inl (ex2 v_m_armHigh_0 v_m_armHigh_1))), (a9, .inl (cI, 2, .inl g_m_feel)), (a12, .inl (cI, 2, .inl (ex2 v_m_stones_0 v_m_stones_1))), (a19, .inl (cI, 2, .inl (ex2 v_m_weighs_0 v_m_weighs_1))), (a20, .inl (cI, 2, .inl (ex2 v_m_sales_0 v_m_sales_1))), (a21, .inl (cI, 2, .inl g_m_lines)), (a5, .inl (cZ, 4, .inl g_m_isPound)), (a10, .inl (cI, 4, .inl (ex4 v_m_poundLow_0 v_m_poundLow_1 v_m_poundLow_2 v_m_poundLow_3))), (a11, .inl (cI, 4, .inl (ex4 v_m_poundHigh_0 v_m_poundHigh_1 v_m_poundHigh_2 v_m_poundHigh_3))), (a6, .inl (cZ, 12, .inl g_m_isMaster))] H := hP
  have hD : va_D A [(a0, .inr (10, [.ref a1, .ref a2, .int v_m_2, .int v_m_3, .int v_m_4, .int v_m_5, .int v_m_6, .int v_m_7, .int v_m_8, .int v_m_9, .long w_m_10, .ref a3, .ref a4, .ref a5, .ref a6, .ref a7, .ref a8, .ref a9, .ref a10, .ref a11, .ref a12, .ref a13, .ref a14, .ref a15, .ref a16, .ref a17, .ref a18, .ref a19, .ref a20, .ref a21, .ref a22, .ref a23, .ref a24, .ref a25, .ref a26, .ref a27, .ref a28, .ref a29, .ref a30, .ref a31, .int 0, .int 1, .ref a32, .ref a33, .int v_m_44, .int v_m_45, .int v_m_46, .int v_m_47, .ref a34, .int v_m_49, .ref a35, .ref a36, .ref a37, .int v_m_53, .int v_m_54, .int v_m_55, .int v_m_56, .int v_m_57, .int v_m_58, .int v_m_59, .int v_m_60, .ref a38, .int v_m_62, .ref a39, .ref a40, .ref a41, .ref a42, .int v_m_67, .int v_m_68])), (a3, .inl (cZ, 2, .inl f1)), (a4, .inl (cZ, 2, .inl f2)), (a7, .inl (cI, 2, .inl (ex2 v_m_armLow_0 v_m_armLow_1))), (a8, .inl (cI, 2, .inl (ex2 v_m_armHigh_0 v_m_armHigh_1))), (a9, .inl (cI, 2, .inl g_m_feel)), (a12, .inl (cI, 2, .inl (ex2 v_m_stones_0 v_m_stones_1))), (a19, .inl (cI, 2, .inl (ex2 v_m_weighs_0 v_m_weighs_1))), (a20, .inl (cI, 2, .inl (ex2 v_m_sales_0 v_m_sales_1))), (a21, .inl (cI, 2, .inl g_m_lines)), (a5, .inl (cZ, 4, .inl g_m_isPound)), (a10, .inl (cI, 4, .inl (ex4 v_m_poundLow_0 v_m_poundLow_1 v_m_poundLow_2 v_m_poundLow_3))), (a11, .inl (cI, 4, .inl (ex4 v_m_poundHigh_0 v_m_poundHigh_1 v_m_poundHigh_2 v_m_poundHigh_3))), (a6, .inl (cZ, 12, .inl g_m_isMaster))] := hD
  refine lv_aload_n hx hb dX10_clearBank_20 rfl (lv_at hl 0 rfl) ?_
  refine k_get hC hK hP iX10 0 15 wf_X10_122 rfl (by decide) rfl rfl dX10_clearBank_21 ?_
  refine lv_aload_n hx hb dX10_clearBank_24 rfl (lv_at hl 0 rfl) ?_
  refine k_get hC hK hP iX10 0 41 wf_X10_243 rfl (by decide) rfl rfl dX10_clearBank_25 ?_
  refine lv_bipush (v := 100) hx hb dX10_clearBank_28 (by decide) ?_
  refine k_iast hC hK hP hD hS 3 1 rfl (by decide +kernel) (by decide) dX10_clearBank_30 (fun H locs hP hD hS => ?_)
  rw [ex2_u1] at hP hD
  have hP : va_P G cl [(a0, .inr (10, [.ref a1, .ref a2, .int v_m_2, .int v_m_3, .int v_m_4, .int v_m_5, .int v_m_6, .int v_m_7, .int v_m_8, .int v_m_9, .long w_m_10, .ref a3, .ref a4, .ref a5, .ref a6, .ref a7, .ref a8, .ref a9, .ref a10, .ref a11, .ref a12, .ref a13, .ref a14, .ref a15, .ref a16, .ref a17, .ref a18, .ref a19, .ref a20, .ref a21, .ref a22, .ref a23, .ref a24, .ref a25, .ref a26, .ref a27, .ref a28, .ref a29, .ref a30, .ref a31, .int 0, .int 1, .ref a32, .ref a33, .int v_m_44, .int v_m_45, .int v_m_46, .int v_m_47, .ref a34, .int v_m_49, .ref a35, .ref a36, .ref a37, .int v_m_53, .int v_m_54, .int v_m_55, .int v_m_56, .int v_m_57, .int v_m_58, .int v_m_59, .int v_m_60, .ref a38, .int v_m_62, .ref a39, .ref a40, .ref a41, .ref a42, .int v_m_67, .int v_m_68])), (a3, .inl (cZ, 2, .inl f1)), (a4, .inl (cZ, 2, .inl f2)), (a7, .inl (cI, 2, .inl (ex2 v_m_armLow_0 100))), (a8, .inl (cI, 2, .inl (ex2 v_m_armHigh_0 v_m_armHigh_1))), (a9, .inl (cI, 2, .inl g_m_feel)), (a12, .inl (cI, 2, .inl (ex2 v_m_stones_0 v_m_stones_1))), (a19, .inl (cI, 2, .inl (ex2 v_m_weighs_0 v_m_weighs_1))), (a20, .inl (cI, 2, .inl (ex2 v_m_sales_0 v_m_sales_1))), (a21, .inl (cI, 2, .inl g_m_lines)), (a5, .inl (cZ, 4, .inl g_m_isPound)), (a10, .inl (cI, 4, .inl (ex4 v_m_poundLow_0 v_m_poundLow_1 v_m_poundLow_2 v_m_poundLow_3))), (a11, .inl (cI, 4, .inl (ex4 v_m_poundHigh_0 v_m_poundHigh_1 v_m_poundHigh_2 v_m_poundHigh_3))), (a6, .inl (cZ, 12, .inl g_m_isMaster))] H := hP
  have hD : va_D A [(a0, .inr (10, [.ref a1, .ref a2, .int v_m_2, .int v_m_3, .int v_m_4, .int v_m_5, .int v_m_6, .int v_m_7, .int v_m_8, .int v_m_9, .long w_m_10, .ref a3, .ref a4, .ref a5, .ref a6, .ref a7, .ref a8, .ref a9, .ref a10, .ref a11, .ref a12, .ref a13, .ref a14, .ref a15, .ref a16, .ref a17, .ref a18, .ref a19, .ref a20, .ref a21, .ref a22, .ref a23, .ref a24, .ref a25, .ref a26, .ref a27, .ref a28, .ref a29, .ref a30, .ref a31, .int 0, .int 1, .ref a32, .ref a33, .int v_m_44, .int v_m_45, .int v_m_46, .int v_m_47, .ref a34, .int v_m_49, .ref a35, .ref a36, .ref a37, .int v_m_53, .int v_m_54, .int v_m_55, .int v_m_56, .int v_m_57, .int v_m_58, .int v_m_59, .int v_m_60, .ref a38, .int v_m_62, .ref a39, .ref a40, .ref a41, .ref a42, .int v_m_67, .int v_m_68])), (a3, .inl (cZ, 2, .inl f1)), (a4, .inl (cZ, 2, .inl f2)), (a7, .inl (cI, 2, .inl (ex2 v_m_armLow_0 100))), (a8, .inl (cI, 2, .inl (ex2 v_m_armHigh_0 v_m_armHigh_1))), (a9, .inl (cI, 2, .inl g_m_feel)), (a12, .inl (cI, 2, .inl (ex2 v_m_stones_0 v_m_stones_1))), (a19, .inl (cI, 2, .inl (ex2 v_m_weighs_0 v_m_weighs_1))), (a20, .inl (cI, 2, .inl (ex2 v_m_sales_0 v_m_sales_1))), (a21, .inl (cI, 2, .inl g_m_lines)), (a5, .inl (cZ, 4, .inl g_m_isPound)), (a10, .inl (cI, 4, .inl (ex4 v_m_poundLow_0 v_m_poundLow_1 v_m_poundLow_2 v_m_poundLow_3))), (a11, .inl (cI, 4, .inl (ex4 v_m_poundHigh_0 v_m_poundHigh_1 v_m_poundHigh_2 v_m_poundHigh_3))), (a6, .inl (cZ, 12, .inl g_m_isMaster))] := hD
  refine lv_aload_n hx hb dX10_clearBank_31 rfl (lv_at hl 0 rfl) ?_
  refine k_get hC hK hP iX10 0 16 wf_X10_126 rfl (by decide) rfl rfl dX10_clearBank_32 ?_
  refine lv_aload_n hx hb dX10_clearBank_35 rfl (lv_at hl 0 rfl) ?_
  refine k_get hC hK hP iX10 0 41 wf_X10_243 rfl (by decide) rfl rfl dX10_clearBank_36 ?_
  refine lv_bipush (v := 100) hx hb dX10_clearBank_39 (by decide) ?_
  refine k_iast hC hK hP hD hS 4 1 rfl (by decide +kernel) (by decide) dX10_clearBank_41 (fun H locs hP hD hS => ?_)
  rw [ex2_u1] at hP hD
  have hP : va_P G cl [(a0, .inr (10, [.ref a1, .ref a2, .int v_m_2, .int v_m_3, .int v_m_4, .int v_m_5, .int v_m_6, .int v_m_7, .int v_m_8, .int v_m_9, .long w_m_10, .ref a3, .ref a4, .ref a5, .ref a6, .ref a7, .ref a8, .ref a9, .ref a10, .ref a11, .ref a12, .ref a13, .ref a14, .ref a15, .ref a16, .ref a17, .ref a18, .ref a19, .ref a20, .ref a21, .ref a22, .ref a23, .ref a24, .ref a25, .ref a26, .ref a27, .ref a28, .ref a29, .ref a30, .ref a31, .int 0, .int 1, .ref a32, .ref a33, .int v_m_44, .int v_m_45, .int v_m_46, .int v_m_47, .ref a34, .int v_m_49, .ref a35, .ref a36, .ref a37, .int v_m_53, .int v_m_54, .int v_m_55, .int v_m_56, .int v_m_57, .int v_m_58, .int v_m_59, .int v_m_60, .ref a38, .int v_m_62, .ref a39, .ref a40, .ref a41, .ref a42, .int v_m_67, .int v_m_68])), (a3, .inl (cZ, 2, .inl f1)), (a4, .inl (cZ, 2, .inl f2)), (a7, .inl (cI, 2, .inl (ex2 v_m_armLow_0 100))), (a8, .inl (cI, 2, .inl (ex2 v_m_armHigh_0 100))), (a9, .inl (cI, 2, .inl g_m_feel)), (a12, .inl (cI, 2, .inl (ex2 v_m_stones_0 v_m_stones_1))), (a19, .inl (cI, 2, .inl (ex2 v_m_weighs_0 v_m_weighs_1))), (a20, .inl (cI, 2, .inl (ex2 v_m_sales_0 v_m_sales_1))), (a21, .inl (cI, 2, .inl g_m_lines)), (a5, .inl (cZ, 4, .inl g_m_isPound)), (a10, .inl (cI, 4, .inl (ex4 v_m_poundLow_0 v_m_poundLow_1 v_m_poundLow_2 v_m_poundLow_3))), (a11, .inl (cI, 4, .inl (ex4 v_m_poundHigh_0 v_m_poundHigh_1 v_m_poundHigh_2 v_m_poundHigh_3))), (a6, .inl (cZ, 12, .inl g_m_isMaster))] H := hP
  have hD : va_D A [(a0, .inr (10, [.ref a1, .ref a2, .int v_m_2, .int v_m_3, .int v_m_4, .int v_m_5, .int v_m_6, .int v_m_7, .int v_m_8, .int v_m_9, .long w_m_10, .ref a3, .ref a4, .ref a5, .ref a6, .ref a7, .ref a8, .ref a9, .ref a10, .ref a11, .ref a12, .ref a13, .ref a14, .ref a15, .ref a16, .ref a17, .ref a18, .ref a19, .ref a20, .ref a21, .ref a22, .ref a23, .ref a24, .ref a25, .ref a26, .ref a27, .ref a28, .ref a29, .ref a30, .ref a31, .int 0, .int 1, .ref a32, .ref a33, .int v_m_44, .int v_m_45, .int v_m_46, .int v_m_47, .ref a34, .int v_m_49, .ref a35, .ref a36, .ref a37, .int v_m_53, .int v_m_54, .int v_m_55, .int v_m_56, .int v_m_57, .int v_m_58, .int v_m_59, .int v_m_60, .ref a38, .int v_m_62, .ref a39, .ref a40, .ref a41, .ref a42, .int v_m_67, .int v_m_68])), (a3, .inl (cZ, 2, .inl f1)), (a4, .inl (cZ, 2, .inl f2)), (a7, .inl (cI, 2, .inl (ex2 v_m_armLow_0 100))), (a8, .inl (cI, 2, .inl (ex2 v_m_armHigh_0 100))), (a9, .inl (cI, 2, .inl g_m_feel)), (a12, .inl (cI, 2, .inl (ex2 v_m_stones_0 v_m_stones_1))), (a19, .inl (cI, 2, .inl (ex2 v_m_weighs_0 v_m_weighs_1))), (a20, .inl (cI, 2, .inl (ex2 v_m_sales_0 v_m_sales_1))), (a21, .inl (cI, 2, .inl g_m_lines)), (a5, .inl (cZ, 4, .inl g_m_isPound)), (a10, .inl (cI, 4, .inl (ex4 v_m_poundLow_0 v_m_poundLow_1 v_m_poundLow_2 v_m_poundLow_3))), (a11, .inl (cI, 4, .inl (ex4 v_m_poundHigh_0 v_m_poundHigh_1 v_m_poundHigh_2 v_m_poundHigh_3))), (a6, .inl (cZ, 12, .inl g_m_isMaster))] := hD
  refine lv_aload_n hx hb dX10_clearBank_42 rfl (lv_at hl 0 rfl) ?_
  refine k_get hC hK hP iX10 0 17 wf_X10_129 rfl (by decide) rfl rfl dX10_clearBank_43 ?_
  refine lv_aload_n hx hb dX10_clearBank_46 rfl (lv_at hl 0 rfl) ?_
  refine k_get hC hK hP iX10 0 41 wf_X10_243 rfl (by decide) rfl rfl dX10_clearBank_47 ?_
  refine lv_iconst (v := 0) hx hb dX10_clearBank_50 (by decide) ?_
  refine t_iast hC hK hP hD hS 5 rfl (by decide) (by decide) (TA.all _) ⟨i_lo _, i_hi _⟩ dX10_clearBank_51 (fun f3 H locs hT_f3 hP hD hS => ?_)
  have hP : va_P G cl [(a0, .inr (10, [.ref a1, .ref a2, .int v_m_2, .int v_m_3, .int v_m_4, .int v_m_5, .int v_m_6, .int v_m_7, .int v_m_8, .int v_m_9, .long w_m_10, .ref a3, .ref a4, .ref a5, .ref a6, .ref a7, .ref a8, .ref a9, .ref a10, .ref a11, .ref a12, .ref a13, .ref a14, .ref a15, .ref a16, .ref a17, .ref a18, .ref a19, .ref a20, .ref a21, .ref a22, .ref a23, .ref a24, .ref a25, .ref a26, .ref a27, .ref a28, .ref a29, .ref a30, .ref a31, .int 0, .int 1, .ref a32, .ref a33, .int v_m_44, .int v_m_45, .int v_m_46, .int v_m_47, .ref a34, .int v_m_49, .ref a35, .ref a36, .ref a37, .int v_m_53, .int v_m_54, .int v_m_55, .int v_m_56, .int v_m_57, .int v_m_58, .int v_m_59, .int v_m_60, .ref a38, .int v_m_62, .ref a39, .ref a40, .ref a41, .ref a42, .int v_m_67, .int v_m_68])), (a3, .inl (cZ, 2, .inl f1)), (a4, .inl (cZ, 2, .inl f2)), (a7, .inl (cI, 2, .inl (ex2 v_m_armLow_0 100))), (a8, .inl (cI, 2, .inl (ex2 v_m_armHigh_0 100))), (a9, .inl (cI, 2, .inl f3)), (a12, .inl (cI, 2, .inl (ex2 v_m_stones_0 v_m_stones_1))), (a19, .inl (cI, 2, .inl (ex2 v_m_weighs_0 v_m_weighs_1))), (a20, .inl (cI, 2, .inl (ex2 v_m_sales_0 v_m_sales_1))), (a21, .inl (cI, 2, .inl g_m_lines)), (a5, .inl (cZ, 4, .inl g_m_isPound)), (a10, .inl (cI, 4, .inl (ex4 v_m_poundLow_0 v_m_poundLow_1 v_m_poundLow_2 v_m_poundLow_3))), (a11, .inl (cI, 4, .inl (ex4 v_m_poundHigh_0 v_m_poundHigh_1 v_m_poundHigh_2 v_m_poundHigh_3))), (a6, .inl (cZ, 12, .inl g_m_isMaster))] H := hP
  have hD : va_D A [(a0, .inr (10, [.ref a1, .ref a2, .int v_m_2, .int v_m_3, .int v_m_4, .int v_m_5, .int v_m_6, .int v_m_7, .int v_m_8, .int v_m_9, .long w_m_10, .ref a3, .ref a4, .ref a5, .ref a6, .ref a7, .ref a8, .ref a9, .ref a10, .ref a11, .ref a12, .ref a13, .ref a14, .ref a15, .ref a16, .ref a17, .ref a18, .ref a19, .ref a20, .ref a21, .ref a22, .ref a23, .ref a24, .ref a25, .ref a26, .ref a27, .ref a28, .ref a29, .ref a30, .ref a31, .int 0, .int 1, .ref a32, .ref a33, .int v_m_44, .int v_m_45, .int v_m_46, .int v_m_47, .ref a34, .int v_m_49, .ref a35, .ref a36, .ref a37, .int v_m_53, .int v_m_54, .int v_m_55, .int v_m_56, .int v_m_57, .int v_m_58, .int v_m_59, .int v_m_60, .ref a38, .int v_m_62, .ref a39, .ref a40, .ref a41, .ref a42, .int v_m_67, .int v_m_68])), (a3, .inl (cZ, 2, .inl f1)), (a4, .inl (cZ, 2, .inl f2)), (a7, .inl (cI, 2, .inl (ex2 v_m_armLow_0 100))), (a8, .inl (cI, 2, .inl (ex2 v_m_armHigh_0 100))), (a9, .inl (cI, 2, .inl f3)), (a12, .inl (cI, 2, .inl (ex2 v_m_stones_0 v_m_stones_1))), (a19, .inl (cI, 2, .inl (ex2 v_m_weighs_0 v_m_weighs_1))), (a20, .inl (cI, 2, .inl (ex2 v_m_sales_0 v_m_sales_1))), (a21, .inl (cI, 2, .inl g_m_lines)), (a5, .inl (cZ, 4, .inl g_m_isPound)), (a10, .inl (cI, 4, .inl (ex4 v_m_poundLow_0 v_m_poundLow_1 v_m_poundLow_2 v_m_poundLow_3))), (a11, .inl (cI, 4, .inl (ex4 v_m_poundHigh_0 v_m_poundHigh_1 v_m_poundHigh_2 v_m_poundHigh_3))), (a6, .inl (cZ, 12, .inl g_m_isMaster))] := hD
  refine lv_aload_n hx hb dX10_clearBank_52 rfl (lv_at hl 0 rfl) ?_
  refine k_get hC hK hP iX10 0 20 wf_X10_138 rfl (by decide) rfl rfl dX10_clearBank_53 ?_
  refine lv_aload_n hx hb dX10_clearBank_56 rfl (lv_at hl 0 rfl) ?_
  refine k_get hC hK hP iX10 0 41 wf_X10_243 rfl (by decide) rfl rfl dX10_clearBank_57 ?_
  refine lv_iconst (v := 0) hx hb dX10_clearBank_60 (by decide) ?_
  refine k_iast hC hK hP hD hS 6 1 rfl (by decide +kernel) (by decide) dX10_clearBank_61 (fun H locs hP hD hS => ?_)
  rw [ex2_u1] at hP hD
  have hP : va_P G cl [(a0, .inr (10, [.ref a1, .ref a2, .int v_m_2, .int v_m_3, .int v_m_4, .int v_m_5, .int v_m_6, .int v_m_7, .int v_m_8, .int v_m_9, .long w_m_10, .ref a3, .ref a4, .ref a5, .ref a6, .ref a7, .ref a8, .ref a9, .ref a10, .ref a11, .ref a12, .ref a13, .ref a14, .ref a15, .ref a16, .ref a17, .ref a18, .ref a19, .ref a20, .ref a21, .ref a22, .ref a23, .ref a24, .ref a25, .ref a26, .ref a27, .ref a28, .ref a29, .ref a30, .ref a31, .int 0, .int 1, .ref a32, .ref a33, .int v_m_44, .int v_m_45, .int v_m_46, .int v_m_47, .ref a34, .int v_m_49, .ref a35, .ref a36, .ref a37, .int v_m_53, .int v_m_54, .int v_m_55, .int v_m_56, .int v_m_57, .int v_m_58, .int v_m_59, .int v_m_60, .ref a38, .int v_m_62, .ref a39, .ref a40, .ref a41, .ref a42, .int v_m_67, .int v_m_68])), (a3, .inl (cZ, 2, .inl f1)), (a4, .inl (cZ, 2, .inl f2)), (a7, .inl (cI, 2, .inl (ex2 v_m_armLow_0 100))), (a8, .inl (cI, 2, .inl (ex2 v_m_armHigh_0 100))), (a9, .inl (cI, 2, .inl f3)), (a12, .inl (cI, 2, .inl (ex2 v_m_stones_0 0))), (a19, .inl (cI, 2, .inl (ex2 v_m_weighs_0 v_m_weighs_1))), (a20, .inl (cI, 2, .inl (ex2 v_m_sales_0 v_m_sales_1))), (a21, .inl (cI, 2, .inl g_m_lines)), (a5, .inl (cZ, 4, .inl g_m_isPound)), (a10, .inl (cI, 4, .inl (ex4 v_m_poundLow_0 v_m_poundLow_1 v_m_poundLow_2 v_m_poundLow_3))), (a11, .inl (cI, 4, .inl (ex4 v_m_poundHigh_0 v_m_poundHigh_1 v_m_poundHigh_2 v_m_poundHigh_3))), (a6, .inl (cZ, 12, .inl g_m_isMaster))] H := hP
  have hD : va_D A [(a0, .inr (10, [.ref a1, .ref a2, .int v_m_2, .int v_m_3, .int v_m_4, .int v_m_5, .int v_m_6, .int v_m_7, .int v_m_8, .int v_m_9, .long w_m_10, .ref a3, .ref a4, .ref a5, .ref a6, .ref a7, .ref a8, .ref a9, .ref a10, .ref a11, .ref a12, .ref a13, .ref a14, .ref a15, .ref a16, .ref a17, .ref a18, .ref a19, .ref a20, .ref a21, .ref a22, .ref a23, .ref a24, .ref a25, .ref a26, .ref a27, .ref a28, .ref a29, .ref a30, .ref a31, .int 0, .int 1, .ref a32, .ref a33, .int v_m_44, .int v_m_45, .int v_m_46, .int v_m_47, .ref a34, .int v_m_49, .ref a35, .ref a36, .ref a37, .int v_m_53, .int v_m_54, .int v_m_55, .int v_m_56, .int v_m_57, .int v_m_58, .int v_m_59, .int v_m_60, .ref a38, .int v_m_62, .ref a39, .ref a40, .ref a41, .ref a42, .int v_m_67, .int v_m_68])), (a3, .inl (cZ, 2, .inl f1)), (a4, .inl (cZ, 2, .inl f2)), (a7, .inl (cI, 2, .inl (ex2 v_m_armLow_0 100))), (a8, .inl (cI, 2, .inl (ex2 v_m_armHigh_0 100))), (a9, .inl (cI, 2, .inl f3)), (a12, .inl (cI, 2, .inl (ex2 v_m_stones_0 0))), (a19, .inl (cI, 2, .inl (ex2 v_m_weighs_0 v_m_weighs_1))), (a20, .inl (cI, 2, .inl (ex2 v_m_sales_0 v_m_sales_1))), (a21, .inl (cI, 2, .inl g_m_lines)), (a5, .inl (cZ, 4, .inl g_m_isPound)), (a10, .inl (cI, 4, .inl (ex4 v_m_poundLow_0 v_m_poundLow_1 v_m_poundLow_2 v_m_poundLow_3))), (a11, .inl (cI, 4, .inl (ex4 v_m_poundHigh_0 v_m_poundHigh_1 v_m_poundHigh_2 v_m_poundHigh_3))), (a6, .inl (cZ, 12, .inl g_m_isMaster))] := hD
  refine lv_aload_n hx hb dX10_clearBank_62 rfl (lv_at hl 0 rfl) ?_
  refine k_get hC hK hP iX10 0 27 wf_X10_159 rfl (by decide) rfl rfl dX10_clearBank_63 ?_
  refine lv_aload_n hx hb dX10_clearBank_66 rfl (lv_at hl 0 rfl) ?_
  refine k_get hC hK hP iX10 0 41 wf_X10_243 rfl (by decide) rfl rfl dX10_clearBank_67 ?_
  refine lv_iconst (v := 0) hx hb dX10_clearBank_70 (by decide) ?_
  refine k_iast hC hK hP hD hS 7 1 rfl (by decide +kernel) (by decide) dX10_clearBank_71 (fun H locs hP hD hS => ?_)
  rw [ex2_u1] at hP hD
  have hP : va_P G cl [(a0, .inr (10, [.ref a1, .ref a2, .int v_m_2, .int v_m_3, .int v_m_4, .int v_m_5, .int v_m_6, .int v_m_7, .int v_m_8, .int v_m_9, .long w_m_10, .ref a3, .ref a4, .ref a5, .ref a6, .ref a7, .ref a8, .ref a9, .ref a10, .ref a11, .ref a12, .ref a13, .ref a14, .ref a15, .ref a16, .ref a17, .ref a18, .ref a19, .ref a20, .ref a21, .ref a22, .ref a23, .ref a24, .ref a25, .ref a26, .ref a27, .ref a28, .ref a29, .ref a30, .ref a31, .int 0, .int 1, .ref a32, .ref a33, .int v_m_44, .int v_m_45, .int v_m_46, .int v_m_47, .ref a34, .int v_m_49, .ref a35, .ref a36, .ref a37, .int v_m_53, .int v_m_54, .int v_m_55, .int v_m_56, .int v_m_57, .int v_m_58, .int v_m_59, .int v_m_60, .ref a38, .int v_m_62, .ref a39, .ref a40, .ref a41, .ref a42, .int v_m_67, .int v_m_68])), (a3, .inl (cZ, 2, .inl f1)), (a4, .inl (cZ, 2, .inl f2)), (a7, .inl (cI, 2, .inl (ex2 v_m_armLow_0 100))), (a8, .inl (cI, 2, .inl (ex2 v_m_armHigh_0 100))), (a9, .inl (cI, 2, .inl f3)), (a12, .inl (cI, 2, .inl (ex2 v_m_stones_0 0))), (a19, .inl (cI, 2, .inl (ex2 v_m_weighs_0 0))), (a20, .inl (cI, 2, .inl (ex2 v_m_sales_0 v_m_sales_1))), (a21, .inl (cI, 2, .inl g_m_lines)), (a5, .inl (cZ, 4, .inl g_m_isPound)), (a10, .inl (cI, 4, .inl (ex4 v_m_poundLow_0 v_m_poundLow_1 v_m_poundLow_2 v_m_poundLow_3))), (a11, .inl (cI, 4, .inl (ex4 v_m_poundHigh_0 v_m_poundHigh_1 v_m_poundHigh_2 v_m_poundHigh_3))), (a6, .inl (cZ, 12, .inl g_m_isMaster))] H := hP
  have hD : va_D A [(a0, .inr (10, [.ref a1, .ref a2, .int v_m_2, .int v_m_3, .int v_m_4, .int v_m_5, .int v_m_6, .int v_m_7, .int v_m_8, .int v_m_9, .long w_m_10, .ref a3, .ref a4, .ref a5, .ref a6, .ref a7, .ref a8, .ref a9, .ref a10, .ref a11, .ref a12, .ref a13, .ref a14, .ref a15, .ref a16, .ref a17, .ref a18, .ref a19, .ref a20, .ref a21, .ref a22, .ref a23, .ref a24, .ref a25, .ref a26, .ref a27, .ref a28, .ref a29, .ref a30, .ref a31, .int 0, .int 1, .ref a32, .ref a33, .int v_m_44, .int v_m_45, .int v_m_46, .int v_m_47, .ref a34, .int v_m_49, .ref a35, .ref a36, .ref a37, .int v_m_53, .int v_m_54, .int v_m_55, .int v_m_56, .int v_m_57, .int v_m_58, .int v_m_59, .int v_m_60, .ref a38, .int v_m_62, .ref a39, .ref a40, .ref a41, .ref a42, .int v_m_67, .int v_m_68])), (a3, .inl (cZ, 2, .inl f1)), (a4, .inl (cZ, 2, .inl f2)), (a7, .inl (cI, 2, .inl (ex2 v_m_armLow_0 100))), (a8, .inl (cI, 2, .inl (ex2 v_m_armHigh_0 100))), (a9, .inl (cI, 2, .inl f3)), (a12, .inl (cI, 2, .inl (ex2 v_m_stones_0 0))), (a19, .inl (cI, 2, .inl (ex2 v_m_weighs_0 0))), (a20, .inl (cI, 2, .inl (ex2 v_m_sales_0 v_m_sales_1))), (a21, .inl (cI, 2, .inl g_m_lines)), (a5, .inl (cZ, 4, .inl g_m_isPound)), (a10, .inl (cI, 4, .inl (ex4 v_m_poundLow_0 v_m_poundLow_1 v_m_poundLow_2 v_m_poundLow_3))), (a11, .inl (cI, 4, .inl (ex4 v_m_poundHigh_0 v_m_poundHigh_1 v_m_poundHigh_2 v_m_poundHigh_3))), (a6, .inl (cZ, 12, .inl g_m_isMaster))] := hD
  refine lv_aload_n hx hb dX10_clearBank_72 rfl (lv_at hl 0 rfl) ?_
  refine k_get hC hK hP iX10 0 28 wf_X10_162 rfl (by decide) rfl rfl dX10_clearBank_73 ?_
  refine lv_aload_n hx hb dX10_clearBank_76 rfl (lv_at hl 0 rfl) ?_
  refine k_get hC hK hP iX10 0 41 wf_X10_243 rfl (by decide) rfl rfl dX10_clearBank_77 ?_
  refine lv_iconst (v := 0) hx hb dX10_clearBank_80 (by decide) ?_
  refine k_iast hC hK hP hD hS 8 1 rfl (by decide +kernel) (by decide) dX10_clearBank_81 (fun H locs hP hD hS => ?_)
  rw [ex2_u1] at hP hD
  have hP : va_P G cl [(a0, .inr (10, [.ref a1, .ref a2, .int v_m_2, .int v_m_3, .int v_m_4, .int v_m_5, .int v_m_6, .int v_m_7, .int v_m_8, .int v_m_9, .long w_m_10, .ref a3, .ref a4, .ref a5, .ref a6, .ref a7, .ref a8, .ref a9, .ref a10, .ref a11, .ref a12, .ref a13, .ref a14, .ref a15, .ref a16, .ref a17, .ref a18, .ref a19, .ref a20, .ref a21, .ref a22, .ref a23, .ref a24, .ref a25, .ref a26, .ref a27, .ref a28, .ref a29, .ref a30, .ref a31, .int 0, .int 1, .ref a32, .ref a33, .int v_m_44, .int v_m_45, .int v_m_46, .int v_m_47, .ref a34, .int v_m_49, .ref a35, .ref a36, .ref a37, .int v_m_53, .int v_m_54, .int v_m_55, .int v_m_56, .int v_m_57, .int v_m_58, .int v_m_59, .int v_m_60, .ref a38, .int v_m_62, .ref a39, .ref a40, .ref a41, .ref a42, .int v_m_67, .int v_m_68])), (a3, .inl (cZ, 2, .inl f1)), (a4, .inl (cZ, 2, .inl f2)), (a7, .inl (cI, 2, .inl (ex2 v_m_armLow_0 100))), (a8, .inl (cI, 2, .inl (ex2 v_m_armHigh_0 100))), (a9, .inl (cI, 2, .inl f3)), (a12, .inl (cI, 2, .inl (ex2 v_m_stones_0 0))), (a19, .inl (cI, 2, .inl (ex2 v_m_weighs_0 0))), (a20, .inl (cI, 2, .inl (ex2 v_m_sales_0 0))), (a21, .inl (cI, 2, .inl g_m_lines)), (a5, .inl (cZ, 4, .inl g_m_isPound)), (a10, .inl (cI, 4, .inl (ex4 v_m_poundLow_0 v_m_poundLow_1 v_m_poundLow_2 v_m_poundLow_3))), (a11, .inl (cI, 4, .inl (ex4 v_m_poundHigh_0 v_m_poundHigh_1 v_m_poundHigh_2 v_m_poundHigh_3))), (a6, .inl (cZ, 12, .inl g_m_isMaster))] H := hP
  have hD : va_D A [(a0, .inr (10, [.ref a1, .ref a2, .int v_m_2, .int v_m_3, .int v_m_4, .int v_m_5, .int v_m_6, .int v_m_7, .int v_m_8, .int v_m_9, .long w_m_10, .ref a3, .ref a4, .ref a5, .ref a6, .ref a7, .ref a8, .ref a9, .ref a10, .ref a11, .ref a12, .ref a13, .ref a14, .ref a15, .ref a16, .ref a17, .ref a18, .ref a19, .ref a20, .ref a21, .ref a22, .ref a23, .ref a24, .ref a25, .ref a26, .ref a27, .ref a28, .ref a29, .ref a30, .ref a31, .int 0, .int 1, .ref a32, .ref a33, .int v_m_44, .int v_m_45, .int v_m_46, .int v_m_47, .ref a34, .int v_m_49, .ref a35, .ref a36, .ref a37, .int v_m_53, .int v_m_54, .int v_m_55, .int v_m_56, .int v_m_57, .int v_m_58, .int v_m_59, .int v_m_60, .ref a38, .int v_m_62, .ref a39, .ref a40, .ref a41, .ref a42, .int v_m_67, .int v_m_68])), (a3, .inl (cZ, 2, .inl f1)), (a4, .inl (cZ, 2, .inl f2)), (a7, .inl (cI, 2, .inl (ex2 v_m_armLow_0 100))), (a8, .inl (cI, 2, .inl (ex2 v_m_armHigh_0 100))), (a9, .inl (cI, 2, .inl f3)), (a12, .inl (cI, 2, .inl (ex2 v_m_stones_0 0))), (a19, .inl (cI, 2, .inl (ex2 v_m_weighs_0 0))), (a20, .inl (cI, 2, .inl (ex2 v_m_sales_0 0))), (a21, .inl (cI, 2, .inl g_m_lines)), (a5, .inl (cZ, 4, .inl g_m_isPound)), (a10, .inl (cI, 4, .inl (ex4 v_m_poundLow_0 v_m_poundLow_1 v_m_poundLow_2 v_m_poundLow_3))), (a11, .inl (cI, 4, .inl (ex4 v_m_poundHigh_0 v_m_poundHigh_1 v_m_poundHigh_2 v_m_poundHigh_3))), (a6, .inl (cZ, 12, .inl g_m_isMaster))] := hD
  refine lv_aload_n hx hb dX10_clearBank_82 rfl (lv_at hl 0 rfl) ?_
  refine k_get hC hK hP iX10 0 29 wf_X10_165 rfl (by decide) rfl rfl dX10_clearBank_83 ?_
  refine lv_aload_n hx hb dX10_clearBank_86 rfl (lv_at hl 0 rfl) ?_
  refine k_get hC hK hP iX10 0 41 wf_X10_243 rfl (by decide) rfl rfl dX10_clearBank_87 ?_
  refine lv_iconst (v := 0) hx hb dX10_clearBank_90 (by decide) ?_
  refine t_iast hC hK hP hD hS 9 rfl (by decide) (by decide) (TA.all _) ⟨i_lo _, i_hi _⟩ dX10_clearBank_91 (fun f4 H locs hT_f4 hP hD hS => ?_)
  have hP : va_P G cl [(a0, .inr (10, [.ref a1, .ref a2, .int v_m_2, .int v_m_3, .int v_m_4, .int v_m_5, .int v_m_6, .int v_m_7, .int v_m_8, .int v_m_9, .long w_m_10, .ref a3, .ref a4, .ref a5, .ref a6, .ref a7, .ref a8, .ref a9, .ref a10, .ref a11, .ref a12, .ref a13, .ref a14, .ref a15, .ref a16, .ref a17, .ref a18, .ref a19, .ref a20, .ref a21, .ref a22, .ref a23, .ref a24, .ref a25, .ref a26, .ref a27, .ref a28, .ref a29, .ref a30, .ref a31, .int 0, .int 1, .ref a32, .ref a33, .int v_m_44, .int v_m_45, .int v_m_46, .int v_m_47, .ref a34, .int v_m_49, .ref a35, .ref a36, .ref a37, .int v_m_53, .int v_m_54, .int v_m_55, .int v_m_56, .int v_m_57, .int v_m_58, .int v_m_59, .int v_m_60, .ref a38, .int v_m_62, .ref a39, .ref a40, .ref a41, .ref a42, .int v_m_67, .int v_m_68])), (a3, .inl (cZ, 2, .inl f1)), (a4, .inl (cZ, 2, .inl f2)), (a7, .inl (cI, 2, .inl (ex2 v_m_armLow_0 100))), (a8, .inl (cI, 2, .inl (ex2 v_m_armHigh_0 100))), (a9, .inl (cI, 2, .inl f3)), (a12, .inl (cI, 2, .inl (ex2 v_m_stones_0 0))), (a19, .inl (cI, 2, .inl (ex2 v_m_weighs_0 0))), (a20, .inl (cI, 2, .inl (ex2 v_m_sales_0 0))), (a21, .inl (cI, 2, .inl f4)), (a5, .inl (cZ, 4, .inl g_m_isPound)), (a10, .inl (cI, 4, .inl (ex4 v_m_poundLow_0 v_m_poundLow_1 v_m_poundLow_2 v_m_poundLow_3))), (a11, .inl (cI, 4, .inl (ex4 v_m_poundHigh_0 v_m_poundHigh_1 v_m_poundHigh_2 v_m_poundHigh_3))), (a6, .inl (cZ, 12, .inl g_m_isMaster))] H := hP
  have hD : va_D A [(a0, .inr (10, [.ref a1, .ref a2, .int v_m_2, .int v_m_3, .int v_m_4, .int v_m_5, .int v_m_6, .int v_m_7, .int v_m_8, .int v_m_9, .long w_m_10, .ref a3, .ref a4, .ref a5, .ref a6, .ref a7, .ref a8, .ref a9, .ref a10, .ref a11, .ref a12, .ref a13, .ref a14, .ref a15, .ref a16, .ref a17, .ref a18, .ref a19, .ref a20, .ref a21, .ref a22, .ref a23, .ref a24, .ref a25, .ref a26, .ref a27, .ref a28, .ref a29, .ref a30, .ref a31, .int 0, .int 1, .ref a32, .ref a33, .int v_m_44, .int v_m_45, .int v_m_46, .int v_m_47, .ref a34, .int v_m_49, .ref a35, .ref a36, .ref a37, .int v_m_53, .int v_m_54, .int v_m_55, .int v_m_56, .int v_m_57, .int v_m_58, .int v_m_59, .int v_m_60, .ref a38, .int v_m_62, .ref a39, .ref a40, .ref a41, .ref a42, .int v_m_67, .int v_m_68])), (a3, .inl (cZ, 2, .inl f1)), (a4, .inl (cZ, 2, .inl f2)), (a7, .inl (cI, 2, .inl (ex2 v_m_armLow_0 100))), (a8, .inl (cI, 2, .inl (ex2 v_m_armHigh_0 100))), (a9, .inl (cI, 2, .inl f3)), (a12, .inl (cI, 2, .inl (ex2 v_m_stones_0 0))), (a19, .inl (cI, 2, .inl (ex2 v_m_weighs_0 0))), (a20, .inl (cI, 2, .inl (ex2 v_m_sales_0 0))), (a21, .inl (cI, 2, .inl f4)), (a5, .inl (cZ, 4, .inl g_m_isPound)), (a10, .inl (cI, 4, .inl (ex4 v_m_poundLow_0 v_m_poundLow_1 v_m_poundLow_2 v_m_poundLow_3))), (a11, .inl (cI, 4, .inl (ex4 v_m_poundHigh_0 v_m_poundHigh_1 v_m_poundHigh_2 v_m_poundHigh_3))), (a6, .inl (cZ, 12, .inl g_m_isMaster))] := hD
  refine lv_iconst (v := 2) hx hb dX10_clearBank_92 (by decide) ?_
  refine lv_aload_n hx hb dX10_clearBank_93 rfl (lv_at hl 0 rfl) ?_
  refine k_get hC hK hP iX10 0 41 wf_X10_243 rfl (by decide) rfl rfl dX10_clearBank_94 ?_
  refine lv_imul hx hb dX10_clearBank_97 ?_
  refine k_i 2 (by decide +kernel) ?_
  refine lv_istore_n (lv' := [(1, .int 2), (0, .ref a0)]) hx hb dX10_clearBank_98 rfl hl (by decide) rfl (fun ls hl => ?_)
  refine lv_iload_n hx hb dX10_clearBank_99 rfl (lv_at hl 0 rfl) ?_
  refine lv_iconst (v := 2) hx hb dX10_clearBank_100 (by decide) ?_
  refine lv_aload_n hx hb dX10_clearBank_101 rfl (lv_at hl 1 rfl) ?_
  refine k_get hC hK hP iX10 0 41 wf_X10_243 rfl (by decide) rfl rfl dX10_clearBank_102 ?_
  refine lv_imul hx hb dX10_clearBank_105 ?_
  refine k_i 2 (by decide +kernel) ?_
  refine lv_iconst (v := 2) hx hb dX10_clearBank_106 (by decide) ?_
  refine lv_iadd hx hb dX10_clearBank_107 ?_
  refine k_i 4 (by decide +kernel) ?_
  refine lv_icmp_ge (tgt := 140) hx hb dX10_clearBank_108 (by decide) (fun c_ => absurd c_ (by decide +kernel)) (fun _ => ?_)
  refine lv_aload_n hx hb dX10_clearBank_111 rfl (lv_at hl 1 rfl) ?_
  refine k_get hC hK hP iX10 0 13 wf_X10_116 rfl (by decide) rfl rfl dX10_clearBank_112 ?_
  refine lv_iload_n hx hb dX10_clearBank_115 rfl (lv_at hl 0 rfl) ?_
  refine lv_iconst (v := 0) hx hb dX10_clearBank_116 (by decide) ?_
  refine t_zast hC hK hP hD hS 10 rfl (by decide) (by decide) hT_g_m_isPound dX10_clearBank_117 (fun f8 H locs hT_f8 hP hD hS => ?_)
  have hP : va_P G cl [(a0, .inr (10, [.ref a1, .ref a2, .int v_m_2, .int v_m_3, .int v_m_4, .int v_m_5, .int v_m_6, .int v_m_7, .int v_m_8, .int v_m_9, .long w_m_10, .ref a3, .ref a4, .ref a5, .ref a6, .ref a7, .ref a8, .ref a9, .ref a10, .ref a11, .ref a12, .ref a13, .ref a14, .ref a15, .ref a16, .ref a17, .ref a18, .ref a19, .ref a20, .ref a21, .ref a22, .ref a23, .ref a24, .ref a25, .ref a26, .ref a27, .ref a28, .ref a29, .ref a30, .ref a31, .int 0, .int 1, .ref a32, .ref a33, .int v_m_44, .int v_m_45, .int v_m_46, .int v_m_47, .ref a34, .int v_m_49, .ref a35, .ref a36, .ref a37, .int v_m_53, .int v_m_54, .int v_m_55, .int v_m_56, .int v_m_57, .int v_m_58, .int v_m_59, .int v_m_60, .ref a38, .int v_m_62, .ref a39, .ref a40, .ref a41, .ref a42, .int v_m_67, .int v_m_68])), (a3, .inl (cZ, 2, .inl f1)), (a4, .inl (cZ, 2, .inl f2)), (a7, .inl (cI, 2, .inl (ex2 v_m_armLow_0 100))), (a8, .inl (cI, 2, .inl (ex2 v_m_armHigh_0 100))), (a9, .inl (cI, 2, .inl f3)), (a12, .inl (cI, 2, .inl (ex2 v_m_stones_0 0))), (a19, .inl (cI, 2, .inl (ex2 v_m_weighs_0 0))), (a20, .inl (cI, 2, .inl (ex2 v_m_sales_0 0))), (a21, .inl (cI, 2, .inl f4)), (a5, .inl (cZ, 4, .inl f8)), (a10, .inl (cI, 4, .inl (ex4 v_m_poundLow_0 v_m_poundLow_1 v_m_poundLow_2 v_m_poundLow_3))), (a11, .inl (cI, 4, .inl (ex4 v_m_poundHigh_0 v_m_poundHigh_1 v_m_poundHigh_2 v_m_poundHigh_3))), (a6, .inl (cZ, 12, .inl g_m_isMaster))] H := hP
  have hD : va_D A [(a0, .inr (10, [.ref a1, .ref a2, .int v_m_2, .int v_m_3, .int v_m_4, .int v_m_5, .int v_m_6, .int v_m_7, .int v_m_8, .int v_m_9, .long w_m_10, .ref a3, .ref a4, .ref a5, .ref a6, .ref a7, .ref a8, .ref a9, .ref a10, .ref a11, .ref a12, .ref a13, .ref a14, .ref a15, .ref a16, .ref a17, .ref a18, .ref a19, .ref a20, .ref a21, .ref a22, .ref a23, .ref a24, .ref a25, .ref a26, .ref a27, .ref a28, .ref a29, .ref a30, .ref a31, .int 0, .int 1, .ref a32, .ref a33, .int v_m_44, .int v_m_45, .int v_m_46, .int v_m_47, .ref a34, .int v_m_49, .ref a35, .ref a36, .ref a37, .int v_m_53, .int v_m_54, .int v_m_55, .int v_m_56, .int v_m_57, .int v_m_58, .int v_m_59, .int v_m_60, .ref a38, .int v_m_62, .ref a39, .ref a40, .ref a41, .ref a42, .int v_m_67, .int v_m_68])), (a3, .inl (cZ, 2, .inl f1)), (a4, .inl (cZ, 2, .inl f2)), (a7, .inl (cI, 2, .inl (ex2 v_m_armLow_0 100))), (a8, .inl (cI, 2, .inl (ex2 v_m_armHigh_0 100))), (a9, .inl (cI, 2, .inl f3)), (a12, .inl (cI, 2, .inl (ex2 v_m_stones_0 0))), (a19, .inl (cI, 2, .inl (ex2 v_m_weighs_0 0))), (a20, .inl (cI, 2, .inl (ex2 v_m_sales_0 0))), (a21, .inl (cI, 2, .inl f4)), (a5, .inl (cZ, 4, .inl f8)), (a10, .inl (cI, 4, .inl (ex4 v_m_poundLow_0 v_m_poundLow_1 v_m_poundLow_2 v_m_poundLow_3))), (a11, .inl (cI, 4, .inl (ex4 v_m_poundHigh_0 v_m_poundHigh_1 v_m_poundHigh_2 v_m_poundHigh_3))), (a6, .inl (cZ, 12, .inl g_m_isMaster))] := hD
  refine lv_aload_n hx hb dX10_clearBank_118 rfl (lv_at hl 1 rfl) ?_
  refine k_get hC hK hP iX10 0 18 wf_X10_132 rfl (by decide) rfl rfl dX10_clearBank_119 ?_
  refine lv_iload_n hx hb dX10_clearBank_122 rfl (lv_at hl 0 rfl) ?_
  refine lv_bipush (v := 16) hx hb dX10_clearBank_123 (by decide) ?_
  refine k_iast hC hK hP hD hS 11 2 rfl (by decide +kernel) (by decide) dX10_clearBank_125 (fun H locs hP hD hS => ?_)
  rw [ex4_u2] at hP hD
  have hP : va_P G cl [(a0, .inr (10, [.ref a1, .ref a2, .int v_m_2, .int v_m_3, .int v_m_4, .int v_m_5, .int v_m_6, .int v_m_7, .int v_m_8, .int v_m_9, .long w_m_10, .ref a3, .ref a4, .ref a5, .ref a6, .ref a7, .ref a8, .ref a9, .ref a10, .ref a11, .ref a12, .ref a13, .ref a14, .ref a15, .ref a16, .ref a17, .ref a18, .ref a19, .ref a20, .ref a21, .ref a22, .ref a23, .ref a24, .ref a25, .ref a26, .ref a27, .ref a28, .ref a29, .ref a30, .ref a31, .int 0, .int 1, .ref a32, .ref a33, .int v_m_44, .int v_m_45, .int v_m_46, .int v_m_47, .ref a34, .int v_m_49, .ref a35, .ref a36, .ref a37, .int v_m_53, .int v_m_54, .int v_m_55, .int v_m_56, .int v_m_57, .int v_m_58, .int v_m_59, .int v_m_60, .ref a38, .int v_m_62, .ref a39, .ref a40, .ref a41, .ref a42, .int v_m_67, .int v_m_68])), (a3, .inl (cZ, 2, .inl f1)), (a4, .inl (cZ, 2, .inl f2)), (a7, .inl (cI, 2, .inl (ex2 v_m_armLow_0 100))), (a8, .inl (cI, 2, .inl (ex2 v_m_armHigh_0 100))), (a9, .inl (cI, 2, .inl f3)), (a12, .inl (cI, 2, .inl (ex2 v_m_stones_0 0))), (a19, .inl (cI, 2, .inl (ex2 v_m_weighs_0 0))), (a20, .inl (cI, 2, .inl (ex2 v_m_sales_0 0))), (a21, .inl (cI, 2, .inl f4)), (a5, .inl (cZ, 4, .inl f8)), (a10, .inl (cI, 4, .inl (ex4 v_m_poundLow_0 v_m_poundLow_1 16 v_m_poundLow_3))), (a11, .inl (cI, 4, .inl (ex4 v_m_poundHigh_0 v_m_poundHigh_1 v_m_poundHigh_2 v_m_poundHigh_3))), (a6, .inl (cZ, 12, .inl g_m_isMaster))] H := hP
  have hD : va_D A [(a0, .inr (10, [.ref a1, .ref a2, .int v_m_2, .int v_m_3, .int v_m_4, .int v_m_5, .int v_m_6, .int v_m_7, .int v_m_8, .int v_m_9, .long w_m_10, .ref a3, .ref a4, .ref a5, .ref a6, .ref a7, .ref a8, .ref a9, .ref a10, .ref a11, .ref a12, .ref a13, .ref a14, .ref a15, .ref a16, .ref a17, .ref a18, .ref a19, .ref a20, .ref a21, .ref a22, .ref a23, .ref a24, .ref a25, .ref a26, .ref a27, .ref a28, .ref a29, .ref a30, .ref a31, .int 0, .int 1, .ref a32, .ref a33, .int v_m_44, .int v_m_45, .int v_m_46, .int v_m_47, .ref a34, .int v_m_49, .ref a35, .ref a36, .ref a37, .int v_m_53, .int v_m_54, .int v_m_55, .int v_m_56, .int v_m_57, .int v_m_58, .int v_m_59, .int v_m_60, .ref a38, .int v_m_62, .ref a39, .ref a40, .ref a41, .ref a42, .int v_m_67, .int v_m_68])), (a3, .inl (cZ, 2, .inl f1)), (a4, .inl (cZ, 2, .inl f2)), (a7, .inl (cI, 2, .inl (ex2 v_m_armLow_0 100))), (a8, .inl (cI, 2, .inl (ex2 v_m_armHigh_0 100))), (a9, .inl (cI, 2, .inl f3)), (a12, .inl (cI, 2, .inl (ex2 v_m_stones_0 0))), (a19, .inl (cI, 2, .inl (ex2 v_m_weighs_0 0))), (a20, .inl (cI, 2, .inl (ex2 v_m_sales_0 0))), (a21, .inl (cI, 2, .inl f4)), (a5, .inl (cZ, 4, .inl f8)), (a10, .inl (cI, 4, .inl (ex4 v_m_poundLow_0 v_m_poundLow_1 16 v_m_poundLow_3))), (a11, .inl (cI, 4, .inl (ex4 v_m_poundHigh_0 v_m_poundHigh_1 v_m_poundHigh_2 v_m_poundHigh_3))), (a6, .inl (cZ, 12, .inl g_m_isMaster))] := hD
  refine lv_aload_n hx hb dX10_clearBank_126 rfl (lv_at hl 1 rfl) ?_
  refine k_get hC hK hP iX10 0 19 wf_X10_135 rfl (by decide) rfl rfl dX10_clearBank_127 ?_
  refine lv_iload_n hx hb dX10_clearBank_130 rfl (lv_at hl 0 rfl) ?_
  refine lv_bipush (v := 16) hx hb dX10_clearBank_131 (by decide) ?_
  refine k_iast hC hK hP hD hS 12 2 rfl (by decide +kernel) (by decide) dX10_clearBank_133 (fun H locs hP hD hS => ?_)
  rw [ex4_u2] at hP hD
  have hP : va_P G cl [(a0, .inr (10, [.ref a1, .ref a2, .int v_m_2, .int v_m_3, .int v_m_4, .int v_m_5, .int v_m_6, .int v_m_7, .int v_m_8, .int v_m_9, .long w_m_10, .ref a3, .ref a4, .ref a5, .ref a6, .ref a7, .ref a8, .ref a9, .ref a10, .ref a11, .ref a12, .ref a13, .ref a14, .ref a15, .ref a16, .ref a17, .ref a18, .ref a19, .ref a20, .ref a21, .ref a22, .ref a23, .ref a24, .ref a25, .ref a26, .ref a27, .ref a28, .ref a29, .ref a30, .ref a31, .int 0, .int 1, .ref a32, .ref a33, .int v_m_44, .int v_m_45, .int v_m_46, .int v_m_47, .ref a34, .int v_m_49, .ref a35, .ref a36, .ref a37, .int v_m_53, .int v_m_54, .int v_m_55, .int v_m_56, .int v_m_57, .int v_m_58, .int v_m_59, .int v_m_60, .ref a38, .int v_m_62, .ref a39, .ref a40, .ref a41, .ref a42, .int v_m_67, .int v_m_68])), (a3, .inl (cZ, 2, .inl f1)), (a4, .inl (cZ, 2, .inl f2)), (a7, .inl (cI, 2, .inl (ex2 v_m_armLow_0 100))), (a8, .inl (cI, 2, .inl (ex2 v_m_armHigh_0 100))), (a9, .inl (cI, 2, .inl f3)), (a12, .inl (cI, 2, .inl (ex2 v_m_stones_0 0))), (a19, .inl (cI, 2, .inl (ex2 v_m_weighs_0 0))), (a20, .inl (cI, 2, .inl (ex2 v_m_sales_0 0))), (a21, .inl (cI, 2, .inl f4)), (a5, .inl (cZ, 4, .inl f8)), (a10, .inl (cI, 4, .inl (ex4 v_m_poundLow_0 v_m_poundLow_1 16 v_m_poundLow_3))), (a11, .inl (cI, 4, .inl (ex4 v_m_poundHigh_0 v_m_poundHigh_1 16 v_m_poundHigh_3))), (a6, .inl (cZ, 12, .inl g_m_isMaster))] H := hP
  have hD : va_D A [(a0, .inr (10, [.ref a1, .ref a2, .int v_m_2, .int v_m_3, .int v_m_4, .int v_m_5, .int v_m_6, .int v_m_7, .int v_m_8, .int v_m_9, .long w_m_10, .ref a3, .ref a4, .ref a5, .ref a6, .ref a7, .ref a8, .ref a9, .ref a10, .ref a11, .ref a12, .ref a13, .ref a14, .ref a15, .ref a16, .ref a17, .ref a18, .ref a19, .ref a20, .ref a21, .ref a22, .ref a23, .ref a24, .ref a25, .ref a26, .ref a27, .ref a28, .ref a29, .ref a30, .ref a31, .int 0, .int 1, .ref a32, .ref a33, .int v_m_44, .int v_m_45, .int v_m_46, .int v_m_47, .ref a34, .int v_m_49, .ref a35, .ref a36, .ref a37, .int v_m_53, .int v_m_54, .int v_m_55, .int v_m_56, .int v_m_57, .int v_m_58, .int v_m_59, .int v_m_60, .ref a38, .int v_m_62, .ref a39, .ref a40, .ref a41, .ref a42, .int v_m_67, .int v_m_68])), (a3, .inl (cZ, 2, .inl f1)), (a4, .inl (cZ, 2, .inl f2)), (a7, .inl (cI, 2, .inl (ex2 v_m_armLow_0 100))), (a8, .inl (cI, 2, .inl (ex2 v_m_armHigh_0 100))), (a9, .inl (cI, 2, .inl f3)), (a12, .inl (cI, 2, .inl (ex2 v_m_stones_0 0))), (a19, .inl (cI, 2, .inl (ex2 v_m_weighs_0 0))), (a20, .inl (cI, 2, .inl (ex2 v_m_sales_0 0))), (a21, .inl (cI, 2, .inl f4)), (a5, .inl (cZ, 4, .inl f8)), (a10, .inl (cI, 4, .inl (ex4 v_m_poundLow_0 v_m_poundLow_1 16 v_m_poundLow_3))), (a11, .inl (cI, 4, .inl (ex4 v_m_poundHigh_0 v_m_poundHigh_1 16 v_m_poundHigh_3))), (a6, .inl (cZ, 12, .inl g_m_isMaster))] := hD
  refine lv_iinc (v := 3) (lv' := [(1, .int 3), (0, .ref a0)]) hx hb dX10_clearBank_134 hl (k := 0) rfl (by decide +kernel) (by decide) rfl (fun ls hl => ?_)
  refine lv_goto (tgt := 99) hx hb dX10_clearBank_137 (by decide) ?_
  refine lv_iload_n hx hb dX10_clearBank_99 rfl (lv_at hl 0 rfl) ?_
  refine lv_iconst (v := 2) hx hb dX10_clearBank_100 (by decide) ?_
  refine lv_aload_n hx hb dX10_clearBank_101 rfl (lv_at hl 1 rfl) ?_
  refine k_get hC hK hP iX10 0 41 wf_X10_243 rfl (by decide) rfl rfl dX10_clearBank_102 ?_
  refine lv_imul hx hb dX10_clearBank_105 ?_
  refine k_i 2 (by decide +kernel) ?_
  refine lv_iconst (v := 2) hx hb dX10_clearBank_106 (by decide) ?_
  refine lv_iadd hx hb dX10_clearBank_107 ?_
  refine k_i 4 (by decide +kernel) ?_
  refine lv_icmp_ge (tgt := 140) hx hb dX10_clearBank_108 (by decide) (fun c_ => absurd c_ (by decide +kernel)) (fun _ => ?_)
  refine lv_aload_n hx hb dX10_clearBank_111 rfl (lv_at hl 1 rfl) ?_
  refine k_get hC hK hP iX10 0 13 wf_X10_116 rfl (by decide) rfl rfl dX10_clearBank_112 ?_
  refine lv_iload_n hx hb dX10_clearBank_115 rfl (lv_at hl 0 rfl) ?_
  refine lv_iconst (v := 0) hx hb dX10_clearBank_116 (by decide) ?_
  refine t_zast hC hK hP hD hS 10 rfl (by decide) (by decide) hT_f8 dX10_clearBank_117 (fun f11 H locs hT_f11 hP hD hS => ?_)
  have hP : va_P G cl [(a0, .inr (10, [.ref a1, .ref a2, .int v_m_2, .int v_m_3, .int v_m_4, .int v_m_5, .int v_m_6, .int v_m_7, .int v_m_8, .int v_m_9, .long w_m_10, .ref a3, .ref a4, .ref a5, .ref a6, .ref a7, .ref a8, .ref a9, .ref a10, .ref a11, .ref a12, .ref a13, .ref a14, .ref a15, .ref a16, .ref a17, .ref a18, .ref a19, .ref a20, .ref a21, .ref a22, .ref a23, .ref a24, .ref a25, .ref a26, .ref a27, .ref a28, .ref a29, .ref a30, .ref a31, .int 0, .int 1, .ref a32, .ref a33, .int v_m_44, .int v_m_45, .int v_m_46, .int v_m_47, .ref a34, .int v_m_49, .ref a35, .ref a36, .ref a37, .int v_m_53, .int v_m_54, .int v_m_55, .int v_m_56, .int v_m_57, .int v_m_58, .int v_m_59, .int v_m_60, .ref a38, .int v_m_62, .ref a39, .ref a40, .ref a41, .ref a42, .int v_m_67, .int v_m_68])), (a3, .inl (cZ, 2, .inl f1)), (a4, .inl (cZ, 2, .inl f2)), (a7, .inl (cI, 2, .inl (ex2 v_m_armLow_0 100))), (a8, .inl (cI, 2, .inl (ex2 v_m_armHigh_0 100))), (a9, .inl (cI, 2, .inl f3)), (a12, .inl (cI, 2, .inl (ex2 v_m_stones_0 0))), (a19, .inl (cI, 2, .inl (ex2 v_m_weighs_0 0))), (a20, .inl (cI, 2, .inl (ex2 v_m_sales_0 0))), (a21, .inl (cI, 2, .inl f4)), (a5, .inl (cZ, 4, .inl f11)), (a10, .inl (cI, 4, .inl (ex4 v_m_poundLow_0 v_m_poundLow_1 16 v_m_poundLow_3))), (a11, .inl (cI, 4, .inl (ex4 v_m_poundHigh_0 v_m_poundHigh_1 16 v_m_poundHigh_3))), (a6, .inl (cZ, 12, .inl g_m_isMaster))] H := hP
  have hD : va_D A [(a0, .inr (10, [.ref a1, .ref a2, .int v_m_2, .int v_m_3, .int v_m_4, .int v_m_5, .int v_m_6, .int v_m_7, .int v_m_8, .int v_m_9, .long w_m_10, .ref a3, .ref a4, .ref a5, .ref a6, .ref a7, .ref a8, .ref a9, .ref a10, .ref a11, .ref a12, .ref a13, .ref a14, .ref a15, .ref a16, .ref a17, .ref a18, .ref a19, .ref a20, .ref a21, .ref a22, .ref a23, .ref a24, .ref a25, .ref a26, .ref a27, .ref a28, .ref a29, .ref a30, .ref a31, .int 0, .int 1, .ref a32, .ref a33, .int v_m_44, .int v_m_45, .int v_m_46, .int v_m_47, .ref a34, .int v_m_49, .ref a35, .ref a36, .ref a37, .int v_m_53, .int v_m_54, .int v_m_55, .int v_m_56, .int v_m_57, .int v_m_58, .int v_m_59, .int v_m_60, .ref a38, .int v_m_62, .ref a39, .ref a40, .ref a41, .ref a42, .int v_m_67, .int v_m_68])), (a3, .inl (cZ, 2, .inl f1)), (a4, .inl (cZ, 2, .inl f2)), (a7, .inl (cI, 2, .inl (ex2 v_m_armLow_0 100))), (a8, .inl (cI, 2, .inl (ex2 v_m_armHigh_0 100))), (a9, .inl (cI, 2, .inl f3)), (a12, .inl (cI, 2, .inl (ex2 v_m_stones_0 0))), (a19, .inl (cI, 2, .inl (ex2 v_m_weighs_0 0))), (a20, .inl (cI, 2, .inl (ex2 v_m_sales_0 0))), (a21, .inl (cI, 2, .inl f4)), (a5, .inl (cZ, 4, .inl f11)), (a10, .inl (cI, 4, .inl (ex4 v_m_poundLow_0 v_m_poundLow_1 16 v_m_poundLow_3))), (a11, .inl (cI, 4, .inl (ex4 v_m_poundHigh_0 v_m_poundHigh_1 16 v_m_poundHigh_3))), (a6, .inl (cZ, 12, .inl g_m_isMaster))] := hD
  refine lv_aload_n hx hb dX10_clearBank_118 rfl (lv_at hl 1 rfl) ?_
  refine k_get hC hK hP iX10 0 18 wf_X10_132 rfl (by decide) rfl rfl dX10_clearBank_119 ?_
  refine lv_iload_n hx hb dX10_clearBank_122 rfl (lv_at hl 0 rfl) ?_
  refine lv_bipush (v := 16) hx hb dX10_clearBank_123 (by decide) ?_
  refine k_iast hC hK hP hD hS 11 3 rfl (by decide +kernel) (by decide) dX10_clearBank_125 (fun H locs hP hD hS => ?_)
  rw [ex4_u3] at hP hD
  have hP : va_P G cl [(a0, .inr (10, [.ref a1, .ref a2, .int v_m_2, .int v_m_3, .int v_m_4, .int v_m_5, .int v_m_6, .int v_m_7, .int v_m_8, .int v_m_9, .long w_m_10, .ref a3, .ref a4, .ref a5, .ref a6, .ref a7, .ref a8, .ref a9, .ref a10, .ref a11, .ref a12, .ref a13, .ref a14, .ref a15, .ref a16, .ref a17, .ref a18, .ref a19, .ref a20, .ref a21, .ref a22, .ref a23, .ref a24, .ref a25, .ref a26, .ref a27, .ref a28, .ref a29, .ref a30, .ref a31, .int 0, .int 1, .ref a32, .ref a33, .int v_m_44, .int v_m_45, .int v_m_46, .int v_m_47, .ref a34, .int v_m_49, .ref a35, .ref a36, .ref a37, .int v_m_53, .int v_m_54, .int v_m_55, .int v_m_56, .int v_m_57, .int v_m_58, .int v_m_59, .int v_m_60, .ref a38, .int v_m_62, .ref a39, .ref a40, .ref a41, .ref a42, .int v_m_67, .int v_m_68])), (a3, .inl (cZ, 2, .inl f1)), (a4, .inl (cZ, 2, .inl f2)), (a7, .inl (cI, 2, .inl (ex2 v_m_armLow_0 100))), (a8, .inl (cI, 2, .inl (ex2 v_m_armHigh_0 100))), (a9, .inl (cI, 2, .inl f3)), (a12, .inl (cI, 2, .inl (ex2 v_m_stones_0 0))), (a19, .inl (cI, 2, .inl (ex2 v_m_weighs_0 0))), (a20, .inl (cI, 2, .inl (ex2 v_m_sales_0 0))), (a21, .inl (cI, 2, .inl f4)), (a5, .inl (cZ, 4, .inl f11)), (a10, .inl (cI, 4, .inl (ex4 v_m_poundLow_0 v_m_poundLow_1 16 16))), (a11, .inl (cI, 4, .inl (ex4 v_m_poundHigh_0 v_m_poundHigh_1 16 v_m_poundHigh_3))), (a6, .inl (cZ, 12, .inl g_m_isMaster))] H := hP
  have hD : va_D A [(a0, .inr (10, [.ref a1, .ref a2, .int v_m_2, .int v_m_3, .int v_m_4, .int v_m_5, .int v_m_6, .int v_m_7, .int v_m_8, .int v_m_9, .long w_m_10, .ref a3, .ref a4, .ref a5, .ref a6, .ref a7, .ref a8, .ref a9, .ref a10, .ref a11, .ref a12, .ref a13, .ref a14, .ref a15, .ref a16, .ref a17, .ref a18, .ref a19, .ref a20, .ref a21, .ref a22, .ref a23, .ref a24, .ref a25, .ref a26, .ref a27, .ref a28, .ref a29, .ref a30, .ref a31, .int 0, .int 1, .ref a32, .ref a33, .int v_m_44, .int v_m_45, .int v_m_46, .int v_m_47, .ref a34, .int v_m_49, .ref a35, .ref a36, .ref a37, .int v_m_53, .int v_m_54, .int v_m_55, .int v_m_56, .int v_m_57, .int v_m_58, .int v_m_59, .int v_m_60, .ref a38, .int v_m_62, .ref a39, .ref a40, .ref a41, .ref a42, .int v_m_67, .int v_m_68])), (a3, .inl (cZ, 2, .inl f1)), (a4, .inl (cZ, 2, .inl f2)), (a7, .inl (cI, 2, .inl (ex2 v_m_armLow_0 100))), (a8, .inl (cI, 2, .inl (ex2 v_m_armHigh_0 100))), (a9, .inl (cI, 2, .inl f3)), (a12, .inl (cI, 2, .inl (ex2 v_m_stones_0 0))), (a19, .inl (cI, 2, .inl (ex2 v_m_weighs_0 0))), (a20, .inl (cI, 2, .inl (ex2 v_m_sales_0 0))), (a21, .inl (cI, 2, .inl f4)), (a5, .inl (cZ, 4, .inl f11)), (a10, .inl (cI, 4, .inl (ex4 v_m_poundLow_0 v_m_poundLow_1 16 16))), (a11, .inl (cI, 4, .inl (ex4 v_m_poundHigh_0 v_m_poundHigh_1 16 v_m_poundHigh_3))), (a6, .inl (cZ, 12, .inl g_m_isMaster))] := hD
  refine lv_aload_n hx hb dX10_clearBank_126 rfl (lv_at hl 1 rfl) ?_
  refine k_get hC hK hP iX10 0 19 wf_X10_135 rfl (by decide) rfl rfl dX10_clearBank_127 ?_
  refine lv_iload_n hx hb dX10_clearBank_130 rfl (lv_at hl 0 rfl) ?_
  refine lv_bipush (v := 16) hx hb dX10_clearBank_131 (by decide) ?_
  refine k_iast hC hK hP hD hS 12 3 rfl (by decide +kernel) (by decide) dX10_clearBank_133 (fun H locs hP hD hS => ?_)
  rw [ex4_u3] at hP hD
  have hP : va_P G cl [(a0, .inr (10, [.ref a1, .ref a2, .int v_m_2, .int v_m_3, .int v_m_4, .int v_m_5, .int v_m_6, .int v_m_7, .int v_m_8, .int v_m_9, .long w_m_10, .ref a3, .ref a4, .ref a5, .ref a6, .ref a7, .ref a8, .ref a9, .ref a10, .ref a11, .ref a12, .ref a13, .ref a14, .ref a15, .ref a16, .ref a17, .ref a18, .ref a19, .ref a20, .ref a21, .ref a22, .ref a23, .ref a24, .ref a25, .ref a26, .ref a27, .ref a28, .ref a29, .ref a30, .ref a31, .int 0, .int 1, .ref a32, .ref a33, .int v_m_44, .int v_m_45, .int v_m_46, .int v_m_47, .ref a34, .int v_m_49, .ref a35, .ref a36, .ref a37, .int v_m_53, .int v_m_54, .int v_m_55, .int v_m_56, .int v_m_57, .int v_m_58, .int v_m_59, .int v_m_60, .ref a38, .int v_m_62, .ref a39, .ref a40, .ref a41, .ref a42, .int v_m_67, .int v_m_68])), (a3, .inl (cZ, 2, .inl f1)), (a4, .inl (cZ, 2, .inl f2)), (a7, .inl (cI, 2, .inl (ex2 v_m_armLow_0 100))), (a8, .inl (cI, 2, .inl (ex2 v_m_armHigh_0 100))), (a9, .inl (cI, 2, .inl f3)), (a12, .inl (cI, 2, .inl (ex2 v_m_stones_0 0))), (a19, .inl (cI, 2, .inl (ex2 v_m_weighs_0 0))), (a20, .inl (cI, 2, .inl (ex2 v_m_sales_0 0))), (a21, .inl (cI, 2, .inl f4)), (a5, .inl (cZ, 4, .inl f11)), (a10, .inl (cI, 4, .inl (ex4 v_m_poundLow_0 v_m_poundLow_1 16 16))), (a11, .inl (cI, 4, .inl (ex4 v_m_poundHigh_0 v_m_poundHigh_1 16 16))), (a6, .inl (cZ, 12, .inl g_m_isMaster))] H := hP
  have hD : va_D A [(a0, .inr (10, [.ref a1, .ref a2, .int v_m_2, .int v_m_3, .int v_m_4, .int v_m_5, .int v_m_6, .int v_m_7, .int v_m_8, .int v_m_9, .long w_m_10, .ref a3, .ref a4, .ref a5, .ref a6, .ref a7, .ref a8, .ref a9, .ref a10, .ref a11, .ref a12, .ref a13, .ref a14, .ref a15, .ref a16, .ref a17, .ref a18, .ref a19, .ref a20, .ref a21, .ref a22, .ref a23, .ref a24, .ref a25, .ref a26, .ref a27, .ref a28, .ref a29, .ref a30, .ref a31, .int 0, .int 1, .ref a32, .ref a33, .int v_m_44, .int v_m_45, .int v_m_46, .int v_m_47, .ref a34, .int v_m_49, .ref a35, .ref a36, .ref a37, .int v_m_53, .int v_m_54, .int v_m_55, .int v_m_56, .int v_m_57, .int v_m_58, .int v_m_59, .int v_m_60, .ref a38, .int v_m_62, .ref a39, .ref a40, .ref a41, .ref a42, .int v_m_67, .int v_m_68])), (a3, .inl (cZ, 2, .inl f1)), (a4, .inl (cZ, 2, .inl f2)), (a7, .inl (cI, 2, .inl (ex2 v_m_armLow_0 100))), (a8, .inl (cI, 2, .inl (ex2 v_m_armHigh_0 100))), (a9, .inl (cI, 2, .inl f3)), (a12, .inl (cI, 2, .inl (ex2 v_m_stones_0 0))), (a19, .inl (cI, 2, .inl (ex2 v_m_weighs_0 0))), (a20, .inl (cI, 2, .inl (ex2 v_m_sales_0 0))), (a21, .inl (cI, 2, .inl f4)), (a5, .inl (cZ, 4, .inl f11)), (a10, .inl (cI, 4, .inl (ex4 v_m_poundLow_0 v_m_poundLow_1 16 16))), (a11, .inl (cI, 4, .inl (ex4 v_m_poundHigh_0 v_m_poundHigh_1 16 16))), (a6, .inl (cZ, 12, .inl g_m_isMaster))] := hD
  refine lv_iinc (v := 4) (lv' := [(1, .int 4), (0, .ref a0)]) hx hb dX10_clearBank_134 hl (k := 0) rfl (by decide +kernel) (by decide) rfl (fun ls hl => ?_)
  refine lv_goto (tgt := 99) hx hb dX10_clearBank_137 (by decide) ?_
  refine lv_iload_n hx hb dX10_clearBank_99 rfl (lv_at hl 0 rfl) ?_
  refine lv_iconst (v := 2) hx hb dX10_clearBank_100 (by decide) ?_
  refine lv_aload_n hx hb dX10_clearBank_101 rfl (lv_at hl 1 rfl) ?_
  refine k_get hC hK hP iX10 0 41 wf_X10_243 rfl (by decide) rfl rfl dX10_clearBank_102 ?_
  refine lv_imul hx hb dX10_clearBank_105 ?_
  refine k_i 2 (by decide +kernel) ?_
  refine lv_iconst (v := 2) hx hb dX10_clearBank_106 (by decide) ?_
  refine lv_iadd hx hb dX10_clearBank_107 ?_
  refine k_i 4 (by decide +kernel) ?_
  refine lv_icmp_ge (tgt := 140) hx hb dX10_clearBank_108 (by decide) (fun _ => ?_) (fun c_ => absurd (by decide +kernel) c_)
  refine lv_bipush (v := 6) hx hb dX10_clearBank_140 (by decide) ?_
  refine lv_aload_n hx hb dX10_clearBank_142 rfl (lv_at hl 1 rfl) ?_
  refine k_get hC hK hP iX10 0 41 wf_X10_243 rfl (by decide) rfl rfl dX10_clearBank_143 ?_
  refine lv_imul hx hb dX10_clearBank_146 ?_
  refine k_i 6 (by decide +kernel) ?_
  refine lv_istore_n (lv' := [(1, .int 6), (0, .ref a0)]) hx hb dX10_clearBank_147 rfl hl (by decide) rfl (fun ls hl => ?_)
  refine lv_iload_n hx hb dX10_clearBank_148 rfl (lv_at hl 0 rfl) ?_
  refine lv_bipush (v := 6) hx hb dX10_clearBank_149 (by decide) ?_
  refine lv_aload_n hx hb dX10_clearBank_151 rfl (lv_at hl 1 rfl) ?_
  refine k_get hC hK hP iX10 0 41 wf_X10_243 rfl (by decide) rfl rfl dX10_clearBank_152 ?_
  refine lv_imul hx hb dX10_clearBank_155 ?_
  refine k_i 6 (by decide +kernel) ?_
  refine lv_bipush (v := 6) hx hb dX10_clearBank_156 (by decide) ?_
  refine lv_iadd hx hb dX10_clearBank_158 ?_
  refine k_i 12 (by decide +kernel) ?_
  refine lv_icmp_ge (tgt := 175) hx hb dX10_clearBank_159 (by decide) (fun c_ => absurd c_ (by decide +kernel)) (fun _ => ?_)
  refine lv_aload_n hx hb dX10_clearBank_162 rfl (lv_at hl 1 rfl) ?_
  refine k_get hC hK hP iX10 0 14 wf_X10_119 rfl (by decide) rfl rfl dX10_clearBank_163 ?_
  refine lv_iload_n hx hb dX10_clearBank_166 rfl (lv_at hl 0 rfl) ?_
  refine lv_iconst (v := 0) hx hb dX10_clearBank_167 (by decide) ?_
  refine t_zastF hC hK hP hD hS 13 rfl (by decide) (by decide) (by omega) hT_g_m_isMaster dX10_clearBank_168 (fun f17 H locs hT_f17 hP hD hS => ?_)
  have hP : va_P G cl [(a0, .inr (10, [.ref a1, .ref a2, .int v_m_2, .int v_m_3, .int v_m_4, .int v_m_5, .int v_m_6, .int v_m_7, .int v_m_8, .int v_m_9, .long w_m_10, .ref a3, .ref a4, .ref a5, .ref a6, .ref a7, .ref a8, .ref a9, .ref a10, .ref a11, .ref a12, .ref a13, .ref a14, .ref a15, .ref a16, .ref a17, .ref a18, .ref a19, .ref a20, .ref a21, .ref a22, .ref a23, .ref a24, .ref a25, .ref a26, .ref a27, .ref a28, .ref a29, .ref a30, .ref a31, .int 0, .int 1, .ref a32, .ref a33, .int v_m_44, .int v_m_45, .int v_m_46, .int v_m_47, .ref a34, .int v_m_49, .ref a35, .ref a36, .ref a37, .int v_m_53, .int v_m_54, .int v_m_55, .int v_m_56, .int v_m_57, .int v_m_58, .int v_m_59, .int v_m_60, .ref a38, .int v_m_62, .ref a39, .ref a40, .ref a41, .ref a42, .int v_m_67, .int v_m_68])), (a3, .inl (cZ, 2, .inl f1)), (a4, .inl (cZ, 2, .inl f2)), (a7, .inl (cI, 2, .inl (ex2 v_m_armLow_0 100))), (a8, .inl (cI, 2, .inl (ex2 v_m_armHigh_0 100))), (a9, .inl (cI, 2, .inl f3)), (a12, .inl (cI, 2, .inl (ex2 v_m_stones_0 0))), (a19, .inl (cI, 2, .inl (ex2 v_m_weighs_0 0))), (a20, .inl (cI, 2, .inl (ex2 v_m_sales_0 0))), (a21, .inl (cI, 2, .inl f4)), (a5, .inl (cZ, 4, .inl f11)), (a10, .inl (cI, 4, .inl (ex4 v_m_poundLow_0 v_m_poundLow_1 16 16))), (a11, .inl (cI, 4, .inl (ex4 v_m_poundHigh_0 v_m_poundHigh_1 16 16))), (a6, .inl (cZ, 12, .inl f17))] H := hP
  have hD : va_D A [(a0, .inr (10, [.ref a1, .ref a2, .int v_m_2, .int v_m_3, .int v_m_4, .int v_m_5, .int v_m_6, .int v_m_7, .int v_m_8, .int v_m_9, .long w_m_10, .ref a3, .ref a4, .ref a5, .ref a6, .ref a7, .ref a8, .ref a9, .ref a10, .ref a11, .ref a12, .ref a13, .ref a14, .ref a15, .ref a16, .ref a17, .ref a18, .ref a19, .ref a20, .ref a21, .ref a22, .ref a23, .ref a24, .ref a25, .ref a26, .ref a27, .ref a28, .ref a29, .ref a30, .ref a31, .int 0, .int 1, .ref a32, .ref a33, .int v_m_44, .int v_m_45, .int v_m_46, .int v_m_47, .ref a34, .int v_m_49, .ref a35, .ref a36, .ref a37, .int v_m_53, .int v_m_54, .int v_m_55, .int v_m_56, .int v_m_57, .int v_m_58, .int v_m_59, .int v_m_60, .ref a38, .int v_m_62, .ref a39, .ref a40, .ref a41, .ref a42, .int v_m_67, .int v_m_68])), (a3, .inl (cZ, 2, .inl f1)), (a4, .inl (cZ, 2, .inl f2)), (a7, .inl (cI, 2, .inl (ex2 v_m_armLow_0 100))), (a8, .inl (cI, 2, .inl (ex2 v_m_armHigh_0 100))), (a9, .inl (cI, 2, .inl f3)), (a12, .inl (cI, 2, .inl (ex2 v_m_stones_0 0))), (a19, .inl (cI, 2, .inl (ex2 v_m_weighs_0 0))), (a20, .inl (cI, 2, .inl (ex2 v_m_sales_0 0))), (a21, .inl (cI, 2, .inl f4)), (a5, .inl (cZ, 4, .inl f11)), (a10, .inl (cI, 4, .inl (ex4 v_m_poundLow_0 v_m_poundLow_1 16 16))), (a11, .inl (cI, 4, .inl (ex4 v_m_poundHigh_0 v_m_poundHigh_1 16 16))), (a6, .inl (cZ, 12, .inl f17))] := hD
  refine lv_iinc (v := 7) (lv' := [(1, .int 7), (0, .ref a0)]) hx hb dX10_clearBank_169 hl (k := 0) rfl (by decide +kernel) (by decide) rfl (fun ls hl => ?_)
  refine lv_goto (tgt := 148) hx hb dX10_clearBank_172 (by decide) ?_
  refine lv_iload_n hx hb dX10_clearBank_148 rfl (lv_at hl 0 rfl) ?_
  refine lv_bipush (v := 6) hx hb dX10_clearBank_149 (by decide) ?_
  refine lv_aload_n hx hb dX10_clearBank_151 rfl (lv_at hl 1 rfl) ?_
  refine k_get hC hK hP iX10 0 41 wf_X10_243 rfl (by decide) rfl rfl dX10_clearBank_152 ?_
  refine lv_imul hx hb dX10_clearBank_155 ?_
  refine k_i 6 (by decide +kernel) ?_
  refine lv_bipush (v := 6) hx hb dX10_clearBank_156 (by decide) ?_
  refine lv_iadd hx hb dX10_clearBank_158 ?_
  refine k_i 12 (by decide +kernel) ?_
  refine lv_icmp_ge (tgt := 175) hx hb dX10_clearBank_159 (by decide) (fun c_ => absurd c_ (by decide +kernel)) (fun _ => ?_)
  refine lv_aload_n hx hb dX10_clearBank_162 rfl (lv_at hl 1 rfl) ?_
  refine k_get hC hK hP iX10 0 14 wf_X10_119 rfl (by decide) rfl rfl dX10_clearBank_163 ?_
  refine lv_iload_n hx hb dX10_clearBank_166 rfl (lv_at hl 0 rfl) ?_
  refine lv_iconst (v := 0) hx hb dX10_clearBank_167 (by decide) ?_
  refine t_zastF hC hK hP hD hS 13 rfl (by decide) (by decide) (by omega) hT_f17 dX10_clearBank_168 (fun f20 H locs hT_f20 hP hD hS => ?_)
  have hP : va_P G cl [(a0, .inr (10, [.ref a1, .ref a2, .int v_m_2, .int v_m_3, .int v_m_4, .int v_m_5, .int v_m_6, .int v_m_7, .int v_m_8, .int v_m_9, .long w_m_10, .ref a3, .ref a4, .ref a5, .ref a6, .ref a7, .ref a8, .ref a9, .ref a10, .ref a11, .ref a12, .ref a13, .ref a14, .ref a15, .ref a16, .ref a17, .ref a18, .ref a19, .ref a20, .ref a21, .ref a22, .ref a23, .ref a24, .ref a25, .ref a26, .ref a27, .ref a28, .ref a29, .ref a30, .ref a31, .int 0, .int 1, .ref a32, .ref a33, .int v_m_44, .int v_m_45, .int v_m_46, .int v_m_47, .ref a34, .int v_m_49, .ref a35, .ref a36, .ref a37, .int v_m_53, .int v_m_54, .int v_m_55, .int v_m_56, .int v_m_57, .int v_m_58, .int v_m_59, .int v_m_60, .ref a38, .int v_m_62, .ref a39, .ref a40, .ref a41, .ref a42, .int v_m_67, .int v_m_68])), (a3, .inl (cZ, 2, .inl f1)), (a4, .inl (cZ, 2, .inl f2)), (a7, .inl (cI, 2, .inl (ex2 v_m_armLow_0 100))), (a8, .inl (cI, 2, .inl (ex2 v_m_armHigh_0 100))), (a9, .inl (cI, 2, .inl f3)), (a12, .inl (cI, 2, .inl (ex2 v_m_stones_0 0))), (a19, .inl (cI, 2, .inl (ex2 v_m_weighs_0 0))), (a20, .inl (cI, 2, .inl (ex2 v_m_sales_0 0))), (a21, .inl (cI, 2, .inl f4)), (a5, .inl (cZ, 4, .inl f11)), (a10, .inl (cI, 4, .inl (ex4 v_m_poundLow_0 v_m_poundLow_1 16 16))), (a11, .inl (cI, 4, .inl (ex4 v_m_poundHigh_0 v_m_poundHigh_1 16 16))), (a6, .inl (cZ, 12, .inl f20))] H := hP
  have hD : va_D A [(a0, .inr (10, [.ref a1, .ref a2, .int v_m_2, .int v_m_3, .int v_m_4, .int v_m_5, .int v_m_6, .int v_m_7, .int v_m_8, .int v_m_9, .long w_m_10, .ref a3, .ref a4, .ref a5, .ref a6, .ref a7, .ref a8, .ref a9, .ref a10, .ref a11, .ref a12, .ref a13, .ref a14, .ref a15, .ref a16, .ref a17, .ref a18, .ref a19, .ref a20, .ref a21, .ref a22, .ref a23, .ref a24, .ref a25, .ref a26, .ref a27, .ref a28, .ref a29, .ref a30, .ref a31, .int 0, .int 1, .ref a32, .ref a33, .int v_m_44, .int v_m_45, .int v_m_46, .int v_m_47, .ref a34, .int v_m_49, .ref a35, .ref a36, .ref a37, .int v_m_53, .int v_m_54, .int v_m_55, .int v_m_56, .int v_m_57, .int v_m_58, .int v_m_59, .int v_m_60, .ref a38, .int v_m_62, .ref a39, .ref a40, .ref a41, .ref a42, .int v_m_67, .int v_m_68])), (a3, .inl (cZ, 2, .inl f1)), (a4, .inl (cZ, 2, .inl f2)), (a7, .inl (cI, 2, .inl (ex2 v_m_armLow_0 100))), (a8, .inl (cI, 2, .inl (ex2 v_m_armHigh_0 100))), (a9, .inl (cI, 2, .inl f3)), (a12, .inl (cI, 2, .inl (ex2 v_m_stones_0 0))), (a19, .inl (cI, 2, .inl (ex2 v_m_weighs_0 0))), (a20, .inl (cI, 2, .inl (ex2 v_m_sales_0 0))), (a21, .inl (cI, 2, .inl f4)), (a5, .inl (cZ, 4, .inl f11)), (a10, .inl (cI, 4, .inl (ex4 v_m_poundLow_0 v_m_poundLow_1 16 16))), (a11, .inl (cI, 4, .inl (ex4 v_m_poundHigh_0 v_m_poundHigh_1 16 16))), (a6, .inl (cZ, 12, .inl f20))] := hD
  refine lv_iinc (v := 8) (lv' := [(1, .int 8), (0, .ref a0)]) hx hb dX10_clearBank_169 hl (k := 0) rfl (by decide +kernel) (by decide) rfl (fun ls hl => ?_)
  refine lv_goto (tgt := 148) hx hb dX10_clearBank_172 (by decide) ?_
  refine lv_iload_n hx hb dX10_clearBank_148 rfl (lv_at hl 0 rfl) ?_
  refine lv_bipush (v := 6) hx hb dX10_clearBank_149 (by decide) ?_
  refine lv_aload_n hx hb dX10_clearBank_151 rfl (lv_at hl 1 rfl) ?_
  refine k_get hC hK hP iX10 0 41 wf_X10_243 rfl (by decide) rfl rfl dX10_clearBank_152 ?_
  refine lv_imul hx hb dX10_clearBank_155 ?_
  refine k_i 6 (by decide +kernel) ?_
  refine lv_bipush (v := 6) hx hb dX10_clearBank_156 (by decide) ?_
  refine lv_iadd hx hb dX10_clearBank_158 ?_
  refine k_i 12 (by decide +kernel) ?_
  refine lv_icmp_ge (tgt := 175) hx hb dX10_clearBank_159 (by decide) (fun c_ => absurd c_ (by decide +kernel)) (fun _ => ?_)
  refine lv_aload_n hx hb dX10_clearBank_162 rfl (lv_at hl 1 rfl) ?_
  refine k_get hC hK hP iX10 0 14 wf_X10_119 rfl (by decide) rfl rfl dX10_clearBank_163 ?_
  refine lv_iload_n hx hb dX10_clearBank_166 rfl (lv_at hl 0 rfl) ?_
  refine lv_iconst (v := 0) hx hb dX10_clearBank_167 (by decide) ?_
  refine t_zastF hC hK hP hD hS 13 rfl (by decide) (by decide) (by omega) hT_f20 dX10_clearBank_168 (fun f23 H locs hT_f23 hP hD hS => ?_)
  have hP : va_P G cl [(a0, .inr (10, [.ref a1, .ref a2, .int v_m_2, .int v_m_3, .int v_m_4, .int v_m_5, .int v_m_6, .int v_m_7, .int v_m_8, .int v_m_9, .long w_m_10, .ref a3, .ref a4, .ref a5, .ref a6, .ref a7, .ref a8, .ref a9, .ref a10, .ref a11, .ref a12, .ref a13, .ref a14, .ref a15, .ref a16, .ref a17, .ref a18, .ref a19, .ref a20, .ref a21, .ref a22, .ref a23, .ref a24, .ref a25, .ref a26, .ref a27, .ref a28, .ref a29, .ref a30, .ref a31, .int 0, .int 1, .ref a32, .ref a33, .int v_m_44, .int v_m_45, .int v_m_46, .int v_m_47, .ref a34, .int v_m_49, .ref a35, .ref a36, .ref a37, .int v_m_53, .int v_m_54, .int v_m_55, .int v_m_56, .int v_m_57, .int v_m_58, .int v_m_59, .int v_m_60, .ref a38, .int v_m_62, .ref a39, .ref a40, .ref a41, .ref a42, .int v_m_67, .int v_m_68])), (a3, .inl (cZ, 2, .inl f1)), (a4, .inl (cZ, 2, .inl f2)), (a7, .inl (cI, 2, .inl (ex2 v_m_armLow_0 100))), (a8, .inl (cI, 2, .inl (ex2 v_m_armHigh_0 100))), (a9, .inl (cI, 2, .inl f3)), (a12, .inl (cI, 2, .inl (ex2 v_m_stones_0 0))), (a19, .inl (cI, 2, .inl (ex2 v_m_weighs_0 0))), (a20, .inl (cI, 2, .inl (ex2 v_m_sales_0 0))), (a21, .inl (cI, 2, .inl f4)), (a5, .inl (cZ, 4, .inl f11)), (a10, .inl (cI, 4, .inl (ex4 v_m_poundLow_0 v_m_poundLow_1 16 16))), (a11, .inl (cI, 4, .inl (ex4 v_m_poundHigh_0 v_m_poundHigh_1 16 16))), (a6, .inl (cZ, 12, .inl f23))] H := hP
  have hD : va_D A [(a0, .inr (10, [.ref a1, .ref a2, .int v_m_2, .int v_m_3, .int v_m_4, .int v_m_5, .int v_m_6, .int v_m_7, .int v_m_8, .int v_m_9, .long w_m_10, .ref a3, .ref a4, .ref a5, .ref a6, .ref a7, .ref a8, .ref a9, .ref a10, .ref a11, .ref a12, .ref a13, .ref a14, .ref a15, .ref a16, .ref a17, .ref a18, .ref a19, .ref a20, .ref a21, .ref a22, .ref a23, .ref a24, .ref a25, .ref a26, .ref a27, .ref a28, .ref a29, .ref a30, .ref a31, .int 0, .int 1, .ref a32, .ref a33, .int v_m_44, .int v_m_45, .int v_m_46, .int v_m_47, .ref a34, .int v_m_49, .ref a35, .ref a36, .ref a37, .int v_m_53, .int v_m_54, .int v_m_55, .int v_m_56, .int v_m_57, .int v_m_58, .int v_m_59, .int v_m_60, .ref a38, .int v_m_62, .ref a39, .ref a40, .ref a41, .ref a42, .int v_m_67, .int v_m_68])), (a3, .inl (cZ, 2, .inl f1)), (a4, .inl (cZ, 2, .inl f2)), (a7, .inl (cI, 2, .inl (ex2 v_m_armLow_0 100))), (a8, .inl (cI, 2, .inl (ex2 v_m_armHigh_0 100))), (a9, .inl (cI, 2, .inl f3)), (a12, .inl (cI, 2, .inl (ex2 v_m_stones_0 0))), (a19, .inl (cI, 2, .inl (ex2 v_m_weighs_0 0))), (a20, .inl (cI, 2, .inl (ex2 v_m_sales_0 0))), (a21, .inl (cI, 2, .inl f4)), (a5, .inl (cZ, 4, .inl f11)), (a10, .inl (cI, 4, .inl (ex4 v_m_poundLow_0 v_m_poundLow_1 16 16))), (a11, .inl (cI, 4, .inl (ex4 v_m_poundHigh_0 v_m_poundHigh_1 16 16))), (a6, .inl (cZ, 12, .inl f23))] := hD
  refine lv_iinc (v := 9) (lv' := [(1, .int 9), (0, .ref a0)]) hx hb dX10_clearBank_169 hl (k := 0) rfl (by decide +kernel) (by decide) rfl (fun ls hl => ?_)
  refine lv_goto (tgt := 148) hx hb dX10_clearBank_172 (by decide) ?_
  refine lv_iload_n hx hb dX10_clearBank_148 rfl (lv_at hl 0 rfl) ?_
  refine lv_bipush (v := 6) hx hb dX10_clearBank_149 (by decide) ?_
  refine lv_aload_n hx hb dX10_clearBank_151 rfl (lv_at hl 1 rfl) ?_
  refine k_get hC hK hP iX10 0 41 wf_X10_243 rfl (by decide) rfl rfl dX10_clearBank_152 ?_
  refine lv_imul hx hb dX10_clearBank_155 ?_
  refine k_i 6 (by decide +kernel) ?_
  refine lv_bipush (v := 6) hx hb dX10_clearBank_156 (by decide) ?_
  refine lv_iadd hx hb dX10_clearBank_158 ?_
  refine k_i 12 (by decide +kernel) ?_
  refine lv_icmp_ge (tgt := 175) hx hb dX10_clearBank_159 (by decide) (fun c_ => absurd c_ (by decide +kernel)) (fun _ => ?_)
  refine lv_aload_n hx hb dX10_clearBank_162 rfl (lv_at hl 1 rfl) ?_
  refine k_get hC hK hP iX10 0 14 wf_X10_119 rfl (by decide) rfl rfl dX10_clearBank_163 ?_
  refine lv_iload_n hx hb dX10_clearBank_166 rfl (lv_at hl 0 rfl) ?_
  refine lv_iconst (v := 0) hx hb dX10_clearBank_167 (by decide) ?_
  refine t_zastF hC hK hP hD hS 13 rfl (by decide) (by decide) (by omega) hT_f23 dX10_clearBank_168 (fun f26 H locs hT_f26 hP hD hS => ?_)
  have hP : va_P G cl [(a0, .inr (10, [.ref a1, .ref a2, .int v_m_2, .int v_m_3, .int v_m_4, .int v_m_5, .int v_m_6, .int v_m_7, .int v_m_8, .int v_m_9, .long w_m_10, .ref a3, .ref a4, .ref a5, .ref a6, .ref a7, .ref a8, .ref a9, .ref a10, .ref a11, .ref a12, .ref a13, .ref a14, .ref a15, .ref a16, .ref a17, .ref a18, .ref a19, .ref a20, .ref a21, .ref a22, .ref a23, .ref a24, .ref a25, .ref a26, .ref a27, .ref a28, .ref a29, .ref a30, .ref a31, .int 0, .int 1, .ref a32, .ref a33, .int v_m_44, .int v_m_45, .int v_m_46, .int v_m_47, .ref a34, .int v_m_49, .ref a35, .ref a36, .ref a37, .int v_m_53, .int v_m_54, .int v_m_55, .int v_m_56, .int v_m_57, .int v_m_58, .int v_m_59, .int v_m_60, .ref a38, .int v_m_62, .ref a39, .ref a40, .ref a41, .ref a42, .int v_m_67, .int v_m_68])), (a3, .inl (cZ, 2, .inl f1)), (a4, .inl (cZ, 2, .inl f2)), (a7, .inl (cI, 2, .inl (ex2 v_m_armLow_0 100))), (a8, .inl (cI, 2, .inl (ex2 v_m_armHigh_0 100))), (a9, .inl (cI, 2, .inl f3)), (a12, .inl (cI, 2, .inl (ex2 v_m_stones_0 0))), (a19, .inl (cI, 2, .inl (ex2 v_m_weighs_0 0))), (a20, .inl (cI, 2, .inl (ex2 v_m_sales_0 0))), (a21, .inl (cI, 2, .inl f4)), (a5, .inl (cZ, 4, .inl f11)), (a10, .inl (cI, 4, .inl (ex4 v_m_poundLow_0 v_m_poundLow_1 16 16))), (a11, .inl (cI, 4, .inl (ex4 v_m_poundHigh_0 v_m_poundHigh_1 16 16))), (a6, .inl (cZ, 12, .inl f26))] H := hP
  have hD : va_D A [(a0, .inr (10, [.ref a1, .ref a2, .int v_m_2, .int v_m_3, .int v_m_4, .int v_m_5, .int v_m_6, .int v_m_7, .int v_m_8, .int v_m_9, .long w_m_10, .ref a3, .ref a4, .ref a5, .ref a6, .ref a7, .ref a8, .ref a9, .ref a10, .ref a11, .ref a12, .ref a13, .ref a14, .ref a15, .ref a16, .ref a17, .ref a18, .ref a19, .ref a20, .ref a21, .ref a22, .ref a23, .ref a24, .ref a25, .ref a26, .ref a27, .ref a28, .ref a29, .ref a30, .ref a31, .int 0, .int 1, .ref a32, .ref a33, .int v_m_44, .int v_m_45, .int v_m_46, .int v_m_47, .ref a34, .int v_m_49, .ref a35, .ref a36, .ref a37, .int v_m_53, .int v_m_54, .int v_m_55, .int v_m_56, .int v_m_57, .int v_m_58, .int v_m_59, .int v_m_60, .ref a38, .int v_m_62, .ref a39, .ref a40, .ref a41, .ref a42, .int v_m_67, .int v_m_68])), (a3, .inl (cZ, 2, .inl f1)), (a4, .inl (cZ, 2, .inl f2)), (a7, .inl (cI, 2, .inl (ex2 v_m_armLow_0 100))), (a8, .inl (cI, 2, .inl (ex2 v_m_armHigh_0 100))), (a9, .inl (cI, 2, .inl f3)), (a12, .inl (cI, 2, .inl (ex2 v_m_stones_0 0))), (a19, .inl (cI, 2, .inl (ex2 v_m_weighs_0 0))), (a20, .inl (cI, 2, .inl (ex2 v_m_sales_0 0))), (a21, .inl (cI, 2, .inl f4)), (a5, .inl (cZ, 4, .inl f11)), (a10, .inl (cI, 4, .inl (ex4 v_m_poundLow_0 v_m_poundLow_1 16 16))), (a11, .inl (cI, 4, .inl (ex4 v_m_poundHigh_0 v_m_poundHigh_1 16 16))), (a6, .inl (cZ, 12, .inl f26))] := hD
  refine lv_iinc (v := 10) (lv' := [(1, .int 10), (0, .ref a0)]) hx hb dX10_clearBank_169 hl (k := 0) rfl (by decide +kernel) (by decide) rfl (fun ls hl => ?_)
  refine lv_goto (tgt := 148) hx hb dX10_clearBank_172 (by decide) ?_
  refine lv_iload_n hx hb dX10_clearBank_148 rfl (lv_at hl 0 rfl) ?_
  refine lv_bipush (v := 6) hx hb dX10_clearBank_149 (by decide) ?_
  refine lv_aload_n hx hb dX10_clearBank_151 rfl (lv_at hl 1 rfl) ?_
  refine k_get hC hK hP iX10 0 41 wf_X10_243 rfl (by decide) rfl rfl dX10_clearBank_152 ?_
  refine lv_imul hx hb dX10_clearBank_155 ?_
  refine k_i 6 (by decide +kernel) ?_
  refine lv_bipush (v := 6) hx hb dX10_clearBank_156 (by decide) ?_
  refine lv_iadd hx hb dX10_clearBank_158 ?_
  refine k_i 12 (by decide +kernel) ?_
  refine lv_icmp_ge (tgt := 175) hx hb dX10_clearBank_159 (by decide) (fun c_ => absurd c_ (by decide +kernel)) (fun _ => ?_)
  refine lv_aload_n hx hb dX10_clearBank_162 rfl (lv_at hl 1 rfl) ?_
  refine k_get hC hK hP iX10 0 14 wf_X10_119 rfl (by decide) rfl rfl dX10_clearBank_163 ?_
  refine lv_iload_n hx hb dX10_clearBank_166 rfl (lv_at hl 0 rfl) ?_
  refine lv_iconst (v := 0) hx hb dX10_clearBank_167 (by decide) ?_
  refine t_zastF hC hK hP hD hS 13 rfl (by decide) (by decide) (by omega) hT_f26 dX10_clearBank_168 (fun f29 H locs hT_f29 hP hD hS => ?_)
  have hP : va_P G cl [(a0, .inr (10, [.ref a1, .ref a2, .int v_m_2, .int v_m_3, .int v_m_4, .int v_m_5, .int v_m_6, .int v_m_7, .int v_m_8, .int v_m_9, .long w_m_10, .ref a3, .ref a4, .ref a5, .ref a6, .ref a7, .ref a8, .ref a9, .ref a10, .ref a11, .ref a12, .ref a13, .ref a14, .ref a15, .ref a16, .ref a17, .ref a18, .ref a19, .ref a20, .ref a21, .ref a22, .ref a23, .ref a24, .ref a25, .ref a26, .ref a27, .ref a28, .ref a29, .ref a30, .ref a31, .int 0, .int 1, .ref a32, .ref a33, .int v_m_44, .int v_m_45, .int v_m_46, .int v_m_47, .ref a34, .int v_m_49, .ref a35, .ref a36, .ref a37, .int v_m_53, .int v_m_54, .int v_m_55, .int v_m_56, .int v_m_57, .int v_m_58, .int v_m_59, .int v_m_60, .ref a38, .int v_m_62, .ref a39, .ref a40, .ref a41, .ref a42, .int v_m_67, .int v_m_68])), (a3, .inl (cZ, 2, .inl f1)), (a4, .inl (cZ, 2, .inl f2)), (a7, .inl (cI, 2, .inl (ex2 v_m_armLow_0 100))), (a8, .inl (cI, 2, .inl (ex2 v_m_armHigh_0 100))), (a9, .inl (cI, 2, .inl f3)), (a12, .inl (cI, 2, .inl (ex2 v_m_stones_0 0))), (a19, .inl (cI, 2, .inl (ex2 v_m_weighs_0 0))), (a20, .inl (cI, 2, .inl (ex2 v_m_sales_0 0))), (a21, .inl (cI, 2, .inl f4)), (a5, .inl (cZ, 4, .inl f11)), (a10, .inl (cI, 4, .inl (ex4 v_m_poundLow_0 v_m_poundLow_1 16 16))), (a11, .inl (cI, 4, .inl (ex4 v_m_poundHigh_0 v_m_poundHigh_1 16 16))), (a6, .inl (cZ, 12, .inl f29))] H := hP
  have hD : va_D A [(a0, .inr (10, [.ref a1, .ref a2, .int v_m_2, .int v_m_3, .int v_m_4, .int v_m_5, .int v_m_6, .int v_m_7, .int v_m_8, .int v_m_9, .long w_m_10, .ref a3, .ref a4, .ref a5, .ref a6, .ref a7, .ref a8, .ref a9, .ref a10, .ref a11, .ref a12, .ref a13, .ref a14, .ref a15, .ref a16, .ref a17, .ref a18, .ref a19, .ref a20, .ref a21, .ref a22, .ref a23, .ref a24, .ref a25, .ref a26, .ref a27, .ref a28, .ref a29, .ref a30, .ref a31, .int 0, .int 1, .ref a32, .ref a33, .int v_m_44, .int v_m_45, .int v_m_46, .int v_m_47, .ref a34, .int v_m_49, .ref a35, .ref a36, .ref a37, .int v_m_53, .int v_m_54, .int v_m_55, .int v_m_56, .int v_m_57, .int v_m_58, .int v_m_59, .int v_m_60, .ref a38, .int v_m_62, .ref a39, .ref a40, .ref a41, .ref a42, .int v_m_67, .int v_m_68])), (a3, .inl (cZ, 2, .inl f1)), (a4, .inl (cZ, 2, .inl f2)), (a7, .inl (cI, 2, .inl (ex2 v_m_armLow_0 100))), (a8, .inl (cI, 2, .inl (ex2 v_m_armHigh_0 100))), (a9, .inl (cI, 2, .inl f3)), (a12, .inl (cI, 2, .inl (ex2 v_m_stones_0 0))), (a19, .inl (cI, 2, .inl (ex2 v_m_weighs_0 0))), (a20, .inl (cI, 2, .inl (ex2 v_m_sales_0 0))), (a21, .inl (cI, 2, .inl f4)), (a5, .inl (cZ, 4, .inl f11)), (a10, .inl (cI, 4, .inl (ex4 v_m_poundLow_0 v_m_poundLow_1 16 16))), (a11, .inl (cI, 4, .inl (ex4 v_m_poundHigh_0 v_m_poundHigh_1 16 16))), (a6, .inl (cZ, 12, .inl f29))] := hD
  refine lv_iinc (v := 11) (lv' := [(1, .int 11), (0, .ref a0)]) hx hb dX10_clearBank_169 hl (k := 0) rfl (by decide +kernel) (by decide) rfl (fun ls hl => ?_)
  refine lv_goto (tgt := 148) hx hb dX10_clearBank_172 (by decide) ?_
  refine lv_iload_n hx hb dX10_clearBank_148 rfl (lv_at hl 0 rfl) ?_
  refine lv_bipush (v := 6) hx hb dX10_clearBank_149 (by decide) ?_
  refine lv_aload_n hx hb dX10_clearBank_151 rfl (lv_at hl 1 rfl) ?_
  refine k_get hC hK hP iX10 0 41 wf_X10_243 rfl (by decide) rfl rfl dX10_clearBank_152 ?_
  refine lv_imul hx hb dX10_clearBank_155 ?_
  refine k_i 6 (by decide +kernel) ?_
  refine lv_bipush (v := 6) hx hb dX10_clearBank_156 (by decide) ?_
  refine lv_iadd hx hb dX10_clearBank_158 ?_
  refine k_i 12 (by decide +kernel) ?_
  refine lv_icmp_ge (tgt := 175) hx hb dX10_clearBank_159 (by decide) (fun c_ => absurd c_ (by decide +kernel)) (fun _ => ?_)
  refine lv_aload_n hx hb dX10_clearBank_162 rfl (lv_at hl 1 rfl) ?_
  refine k_get hC hK hP iX10 0 14 wf_X10_119 rfl (by decide) rfl rfl dX10_clearBank_163 ?_
  refine lv_iload_n hx hb dX10_clearBank_166 rfl (lv_at hl 0 rfl) ?_
  refine lv_iconst (v := 0) hx hb dX10_clearBank_167 (by decide) ?_
  refine t_zastF hC hK hP hD hS 13 rfl (by decide) (by decide) (by omega) hT_f29 dX10_clearBank_168 (fun f32 H locs hT_f32 hP hD hS => ?_)
  have hP : va_P G cl [(a0, .inr (10, [.ref a1, .ref a2, .int v_m_2, .int v_m_3, .int v_m_4, .int v_m_5, .int v_m_6, .int v_m_7, .int v_m_8, .int v_m_9, .long w_m_10, .ref a3, .ref a4, .ref a5, .ref a6, .ref a7, .ref a8, .ref a9, .ref a10, .ref a11, .ref a12, .ref a13, .ref a14, .ref a15, .ref a16, .ref a17, .ref a18, .ref a19, .ref a20, .ref a21, .ref a22, .ref a23, .ref a24, .ref a25, .ref a26, .ref a27, .ref a28, .ref a29, .ref a30, .ref a31, .int 0, .int 1, .ref a32, .ref a33, .int v_m_44, .int v_m_45, .int v_m_46, .int v_m_47, .ref a34, .int v_m_49, .ref a35, .ref a36, .ref a37, .int v_m_53, .int v_m_54, .int v_m_55, .int v_m_56, .int v_m_57, .int v_m_58, .int v_m_59, .int v_m_60, .ref a38, .int v_m_62, .ref a39, .ref a40, .ref a41, .ref a42, .int v_m_67, .int v_m_68])), (a3, .inl (cZ, 2, .inl f1)), (a4, .inl (cZ, 2, .inl f2)), (a7, .inl (cI, 2, .inl (ex2 v_m_armLow_0 100))), (a8, .inl (cI, 2, .inl (ex2 v_m_armHigh_0 100))), (a9, .inl (cI, 2, .inl f3)), (a12, .inl (cI, 2, .inl (ex2 v_m_stones_0 0))), (a19, .inl (cI, 2, .inl (ex2 v_m_weighs_0 0))), (a20, .inl (cI, 2, .inl (ex2 v_m_sales_0 0))), (a21, .inl (cI, 2, .inl f4)), (a5, .inl (cZ, 4, .inl f11)), (a10, .inl (cI, 4, .inl (ex4 v_m_poundLow_0 v_m_poundLow_1 16 16))), (a11, .inl (cI, 4, .inl (ex4 v_m_poundHigh_0 v_m_poundHigh_1 16 16))), (a6, .inl (cZ, 12, .inl f32))] H := hP
  have hD : va_D A [(a0, .inr (10, [.ref a1, .ref a2, .int v_m_2, .int v_m_3, .int v_m_4, .int v_m_5, .int v_m_6, .int v_m_7, .int v_m_8, .int v_m_9, .long w_m_10, .ref a3, .ref a4, .ref a5, .ref a6, .ref a7, .ref a8, .ref a9, .ref a10, .ref a11, .ref a12, .ref a13, .ref a14, .ref a15, .ref a16, .ref a17, .ref a18, .ref a19, .ref a20, .ref a21, .ref a22, .ref a23, .ref a24, .ref a25, .ref a26, .ref a27, .ref a28, .ref a29, .ref a30, .ref a31, .int 0, .int 1, .ref a32, .ref a33, .int v_m_44, .int v_m_45, .int v_m_46, .int v_m_47, .ref a34, .int v_m_49, .ref a35, .ref a36, .ref a37, .int v_m_53, .int v_m_54, .int v_m_55, .int v_m_56, .int v_m_57, .int v_m_58, .int v_m_59, .int v_m_60, .ref a38, .int v_m_62, .ref a39, .ref a40, .ref a41, .ref a42, .int v_m_67, .int v_m_68])), (a3, .inl (cZ, 2, .inl f1)), (a4, .inl (cZ, 2, .inl f2)), (a7, .inl (cI, 2, .inl (ex2 v_m_armLow_0 100))), (a8, .inl (cI, 2, .inl (ex2 v_m_armHigh_0 100))), (a9, .inl (cI, 2, .inl f3)), (a12, .inl (cI, 2, .inl (ex2 v_m_stones_0 0))), (a19, .inl (cI, 2, .inl (ex2 v_m_weighs_0 0))), (a20, .inl (cI, 2, .inl (ex2 v_m_sales_0 0))), (a21, .inl (cI, 2, .inl f4)), (a5, .inl (cZ, 4, .inl f11)), (a10, .inl (cI, 4, .inl (ex4 v_m_poundLow_0 v_m_poundLow_1 16 16))), (a11, .inl (cI, 4, .inl (ex4 v_m_poundHigh_0 v_m_poundHigh_1 16 16))), (a6, .inl (cZ, 12, .inl f32))] := hD
  refine lv_iinc (v := 12) (lv' := [(1, .int 12), (0, .ref a0)]) hx hb dX10_clearBank_169 hl (k := 0) rfl (by decide +kernel) (by decide) rfl (fun ls hl => ?_)
  refine lv_goto (tgt := 148) hx hb dX10_clearBank_172 (by decide) ?_
  refine lv_iload_n hx hb dX10_clearBank_148 rfl (lv_at hl 0 rfl) ?_
  refine lv_bipush (v := 6) hx hb dX10_clearBank_149 (by decide) ?_
  refine lv_aload_n hx hb dX10_clearBank_151 rfl (lv_at hl 1 rfl) ?_
  refine k_get hC hK hP iX10 0 41 wf_X10_243 rfl (by decide) rfl rfl dX10_clearBank_152 ?_
  refine lv_imul hx hb dX10_clearBank_155 ?_
  refine k_i 6 (by decide +kernel) ?_
  refine lv_bipush (v := 6) hx hb dX10_clearBank_156 (by decide) ?_
  refine lv_iadd hx hb dX10_clearBank_158 ?_
  refine k_i 12 (by decide +kernel) ?_
  refine lv_icmp_ge (tgt := 175) hx hb dX10_clearBank_159 (by decide) (fun _ => ?_) (fun c_ => absurd (by decide +kernel) c_)
  have l_l35 : (100 : Int32).toInt = 100 := rfl
  have l_l36 : (0 : Int32).toInt = 0 := rfl
  have l_l37 : (16 : Int32).toInt = 16 := rfl
  rw [← hQm]
  exact k_vret hC hr hlk hK hP hD hS (100, 100, 0, 0, 0, 16, 16, 16, 16, f1, f2, f3, f4, f11, f32) [0, 1, 2, 3, 4, 5, 6, 7, 8, 9, 10, 11, 12, 13] rfl (by decide) ⟨(show 100 ≤ (100 : Int32).toInt ∧ (100 : Int32).toInt ≤ 100 ∧ 100 ≤ (100 : Int32).toInt ∧ (100 : Int32).toInt ≤ 100 ∧ 0 ≤ (0 : Int32).toInt ∧ (0 : Int32).toInt ≤ 0 ∧ 0 ≤ (0 : Int32).toInt ∧ (0 : Int32).toInt ≤ 0 ∧ 0 ≤ (0 : Int32).toInt ∧ (0 : Int32).toInt ≤ 0 ∧ 16 ≤ (16 : Int32).toInt ∧ (16 : Int32).toInt ≤ 16 ∧ 16 ≤ (16 : Int32).toInt ∧ (16 : Int32).toInt ≤ 16 ∧ 16 ≤ (16 : Int32).toInt ∧ (16 : Int32).toInt ≤ 16 ∧ 16 ≤ (16 : Int32).toInt ∧ (16 : Int32).toInt ≤ 16 from by omega), hT_f1, hT_f2, hT_f11, hT_f32⟩ (Nat.le_of_ble_eq_true rfl) (Nat.le_of_ble_eq_true rfl) dX10_clearBank_175
theorem dX10_sign_0 : decode cX10_sign 0 = .ok (.iload_n 1, 1) := by decide +kernel
theorem dX10_sign_1 : decode cX10_sign 1 = .ok (.aload_n 0, 1) := by decide +kernel
theorem dX10_sign_2 : decode cX10_sign 2 = .ok (.getfield 1, 3) := by decide +kernel
theorem dX10_sign_5 : decode cX10_sign 5 = .ok (.if_icmp .ge 16, 3) := by decide +kernel
theorem dX10_sign_8 : decode cX10_sign 8 = .ok (.aload_n 0, 1) := by decide +kernel
theorem dX10_sign_9 : decode cX10_sign 9 = .ok (.getfield 7, 3) := by decide +kernel
theorem dX10_sign_12 : decode cX10_sign 12 = .ok (.iload_n 1, 1) := by decide +kernel
theorem dX10_sign_13 : decode cX10_sign 13 = .ok (.baload, 1) := by decide +kernel
theorem dX10_sign_14 : decode cX10_sign 14 = .ok (.sipush 255, 3) := by decide +kernel
theorem dX10_sign_17 : decode cX10_sign 17 = .ok (.iand, 1) := by decide +kernel
theorem dX10_sign_18 : decode cX10_sign 18 = .ok (.goto 4, 3) := by decide +kernel
theorem dX10_sign_21 : decode cX10_sign 21 = .ok (.iconst 0, 1) := by decide +kernel
theorem dX10_sign_22 : decode cX10_sign 22 = .ok (.ireturn, 1) := by decide +kernel
set_option maxRecDepth 100000 in
theorem wf_X10_1 : Cond.fieldLink RX10 1 "StoneTrustModel" "size" "I" ∈ gw := gm (List.mem_of_getElem? (i := 1258) (by decide +kernel)) rfl
set_option maxRecDepth 100000 in
theorem wf_X10_7 : Cond.fieldLink RX10 7 "StoneTrustModel" "text" "[B" ∈ gw := gm (List.mem_of_getElem? (i := 1256) (by decide +kernel)) rfl
set_option maxHeartbeats 4000000 in
set_option maxRecDepth 100000 in
theorem c2_X10_sign (l : Launch) (G : va_G) (cI cJ cB cZ : ClassId) (a0 a1 a2 a3 a4 a5 a6 a7 a8 a9 a10 a11 a12 a13 a14 a15 a16 a17 a18 a19 a20 a21 a22 a23 a24 a25 a26 a27 a28 a29 a30 a31 a32 a33 a34 a35 a36 a37 a38 a39 a40 a41 a42 : Nat) (b1 : Int32) (v_m_2 : Int32) (v_m_3 : Int32) (v_m_4 : Int32) (v_m_5 : Int32) (v_m_6 : Int32) (v_m_7 : Int32) (v_m_8 : Int32) (v_m_9 : Int32) (w_m_10 : Int64) (v_m_44 : Int32) (v_m_45 : Int32) (v_m_46 : Int32) (v_m_47 : Int32) (v_m_49 : Int32) (v_m_53 : Int32) (v_m_54 : Int32) (v_m_55 : Int32) (v_m_56 : Int32) (v_m_57 : Int32) (v_m_58 : Int32) (v_m_59 : Int32) (v_m_60 : Int32) (v_m_62 : Int32) (v_m_67 : Int32) (v_m_68 : Int32) (g_m_text : Nat → Int32) (hv : 0 ≤ b1.toInt ∧ b1.toInt ≤ 1302 ∧ 0 ≤ v_m_2.toInt ∧ v_m_2.toInt ≤ 1300 ∧ 0 ≤ v_m_3.toInt ∧ v_m_3.toInt ≤ 1300 ∧ 0 ≤ v_m_4.toInt ∧ v_m_4.toInt ≤ 5 ∧ 0 ≤ v_m_6.toInt ∧ v_m_6.toInt ≤ 1300 ∧ 0 ≤ v_m_7.toInt ∧ v_m_7.toInt ≤ 1301 ∧ 0 ≤ v_m_8.toInt ∧ v_m_8.toInt ≤ 5 ∧ 0 ≤ v_m_9.toInt ∧ v_m_9.toInt ≤ 9999 ∧ 0 ≤ v_m_44.toInt ∧ v_m_44.toInt ≤ 30 ∧ 0 ≤ v_m_47.toInt ∧ v_m_47.toInt ≤ 1 ∧ 0 ≤ v_m_49.toInt ∧ v_m_49.toInt ≤ 46 ∧ 0 ≤ v_m_53.toInt ∧ v_m_53.toInt ≤ 300000 ∧ 0 ≤ v_m_55.toInt ∧ v_m_55.toInt ≤ 300109 ∧ v_m_56.toInt ≤ 300000 ∧ 0 ≤ v_m_57.toInt ∧ v_m_57.toInt ≤ 1 ∧ 0 ≤ v_m_60.toInt ∧ v_m_60.toInt ≤ 1) (hT_g_m_text : TA (-128) 127 g_m_text) : Con l G (TY cI cJ cB cZ) yX10_sign cX10_sign 2 (some .int) ({ frames := 0, cells := 0, slots := 0, locals := 0 } : Room) [.ref a0, .int b1] [(a0, .inr (10, [.ref a1, .ref a2, .int v_m_2, .int v_m_3, .int v_m_4, .int v_m_5, .int v_m_6, .int v_m_7, .int v_m_8, .int v_m_9, .long w_m_10, .ref a3, .ref a4, .ref a5, .ref a6, .ref a7, .ref a8, .ref a9, .ref a10, .ref a11, .ref a12, .ref a13, .ref a14, .ref a15, .ref a16, .ref a17, .ref a18, .ref a19, .ref a20, .ref a21, .ref a22, .ref a23, .ref a24, .ref a25, .ref a26, .ref a27, .ref a28, .ref a29, .ref a30, .ref a31, .int 0, .int 1, .ref a32, .ref a33, .int v_m_44, .int v_m_45, .int v_m_46, .int v_m_47, .ref a34, .int v_m_49, .ref a35, .ref a36, .ref a37, .int v_m_53, .int v_m_54, .int v_m_55, .int v_m_56, .int v_m_57, .int v_m_58, .int v_m_59, .int v_m_60, .ref a38, .int v_m_62, .ref a39, .ref a40, .ref a41, .ref a42, .int v_m_67, .int v_m_68])), (a2, .inl (cB, 1300, .inl g_m_text))] (QI G (TY cI cJ cB cZ) (fun (r : Int32) (u : Unit) => (0 ≤ r.toInt ∧ r.toInt ≤ 255 ∧ (r.toInt = (sgn g_m_text v_m_3 b1).toInt) ∧ (r.toInt = 0 ∨ b1.toInt < v_m_3.toInt))) (fun u : Unit => [(a0, .inr (10, [.ref a1, .ref a2, .int v_m_2, .int v_m_3, .int v_m_4, .int v_m_5, .int v_m_6, .int v_m_7, .int v_m_8, .int v_m_9, .long w_m_10, .ref a3, .ref a4, .ref a5, .ref a6, .ref a7, .ref a8, .ref a9, .ref a10, .ref a11, .ref a12, .ref a13, .ref a14, .ref a15, .ref a16, .ref a17, .ref a18, .ref a19, .ref a20, .ref a21, .ref a22, .ref a23, .ref a24, .ref a25, .ref a26, .ref a27, .ref a28, .ref a29, .ref a30, .ref a31, .int 0, .int 1, .ref a32, .ref a33, .int v_m_44, .int v_m_45, .int v_m_46, .int v_m_47, .ref a34, .int v_m_49, .ref a35, .ref a36, .ref a37, .int v_m_53, .int v_m_54, .int v_m_55, .int v_m_56, .int v_m_57, .int v_m_58, .int v_m_59, .int v_m_60, .ref a38, .int v_m_62, .ref a39, .ref a40, .ref a41, .ref a42, .int v_m_67, .int v_m_68])), (a2, .inl (cB, 1300, .inl g_m_text))])) := by
  refine k_met (by decide) (Nat.le_of_ble_eq_true rfl) ?_
  intro p e s m below meth c A ls hC hr hlk hnm hN hZ hK hA hP hD hS hl
  have hl : lv_has ls 2 [(0, .ref a0), (1, .int b1)] := hl
  generalize hQm : MQ below _ _ s _ _ A = Qm
  generalize (List.toArray _ : Array Value) = args at hC hQm ⊢
  obtain ⟨hx, hb, hml, hown, hts⟩ := id hC
  obtain ⟨H, hH⟩ : ∃ q, q = s.heap := ⟨_, rfl⟩
  obtain ⟨locs, hlo⟩ : ∃ q : List Loc, q = [] := ⟨_, rfl⟩
  have hP : va_P G cl [(a0, .inr (10, [.ref a1, .ref a2, .int v_m_2, .int v_m_3, .int v_m_4, .int v_m_5, .int v_m_6, .int v_m_7, .int v_m_8, .int v_m_9, .long w_m_10, .ref a3, .ref a4, .ref a5, .ref a6, .ref a7, .ref a8, .ref a9, .ref a10, .ref a11, .ref a12, .ref a13, .ref a14, .ref a15, .ref a16, .ref a17, .ref a18, .ref a19, .ref a20, .ref a21, .ref a22, .ref a23, .ref a24, .ref a25, .ref a26, .ref a27, .ref a28, .ref a29, .ref a30, .ref a31, .int 0, .int 1, .ref a32, .ref a33, .int v_m_44, .int v_m_45, .int v_m_46, .int v_m_47, .ref a34, .int v_m_49, .ref a35, .ref a36, .ref a37, .int v_m_53, .int v_m_54, .int v_m_55, .int v_m_56, .int v_m_57, .int v_m_58, .int v_m_59, .int v_m_60, .ref a38, .int v_m_62, .ref a39, .ref a40, .ref a41, .ref a42, .int v_m_67, .int v_m_68])), (a2, .inl (cB, 1300, .inl g_m_text))] H := by rw [hH]; exact hP
  have hS : va_S A s.heap H locs := by rw [hH, hlo]; exact hS
  rw [← hlo]
  rw [← hH]
  refine lv_iload_n hx hb dX10_sign_0 rfl (lv_at hl 1 rfl) ?_
  refine lv_aload_n hx hb dX10_sign_1 rfl (lv_at hl 0 rfl) ?_
  refine k_get hC hK hP iX10 0 3 wf_X10_1 rfl (by decide) rfl rfl dX10_sign_2 ?_
  refine lv_icmp_ge (tgt := 21) hx hb dX10_sign_5 (by decide) (fun c1 => ?_) (fun c1 => ?_)
  · have d1 : v_m_3.toInt ≤ b1.toInt := (fa_le _ _).mp c1
    refine lv_iconst (v := 0) hx hb dX10_sign_21 (by decide) ?_
    have e1 : sgn g_m_text v_m_3 b1 = 0 := by unfold sgn; rw [if_neg (by omega)]
    rw [← hQm]
    exact k_iret hC hr hlk hK hP hD hS () [0, 1] rfl (by decide) (show (0 ≤ (0 : Int32).toInt ∧ (0 : Int32).toInt ≤ 255 ∧ ((0 : Int32).toInt = (sgn g_m_text v_m_3 b1).toInt) ∧ ((0 : Int32).toInt = 0 ∨ b1.toInt < v_m_3.toInt)) from by rw [e1]; have l_ : (0 : Int32).toInt = 0 := rfl; omega) (Nat.le_of_ble_eq_true rfl) (Nat.le_of_ble_eq_true rfl) dX10_sign_22
  · have d1 : b1.toInt < v_m_3.toInt := fa_nle c1
    refine lv_aload_n hx hb dX10_sign_8 rfl (lv_at hl 0 rfl) ?_
    refine k_get hC hK hP iX10 0 1 wf_X10_7 rfl (by decide) rfl rfl dX10_sign_9 ?_
    refine lv_iload_n hx hb dX10_sign_12 rfl (lv_at hl 1 rfl) ?_
    refine va_bald hx hb hK hP 1 2 rfl rfl (vp_in_iff.mpr ⟨by omega, by show b1.toInt < (1300 : Int); omega⟩) dX10_sign_13 ?_
    refine lv_sipush (v := 255) hx hb dX10_sign_14 (by decide) ?_
    refine lv_iand hx hb dX10_sign_17 ?_
    have e1 : sgn g_m_text v_m_3 b1 = g_m_text b1.toNatClampNeg &&& 255 := by unfold sgn; rw [if_pos (by omega)]
    refine k_i (sgn g_m_text v_m_3 b1) e1.symm ?_
    have b_ : 0 ≤ (sgn g_m_text v_m_3 b1).toInt ∧ (sgn g_m_text v_m_3 b1).toInt ≤ 255 := by rw [e1]; exact and_b (y := 255) (by decide)
    refine lv_goto (tgt := 22) hx hb dX10_sign_18 (by decide) ?_
    rw [← hQm]
    exact k_iret hC hr hlk hK hP hD hS () [0, 1] rfl (by decide) (show (0 ≤ (sgn g_m_text v_m_3 b1).toInt ∧ (sgn g_m_text v_m_3 b1).toInt ≤ 255 ∧ ((sgn g_m_text v_m_3 b1).toInt = (sgn g_m_text v_m_3 b1).toInt) ∧ ((sgn g_m_text v_m_3 b1).toInt = 0 ∨ b1.toInt < v_m_3.toInt)) from by omega) (Nat.le_of_ble_eq_true rfl) (Nat.le_of_ble_eq_true rfl) dX10_sign_22
theorem dX10_isLetter_0 : decode cX10_isLetter 0 = .ok (.iload_n 0, 1) := by decide +kernel
theorem dX10_isLetter_1 : decode cX10_isLetter 1 = .ok (.bipush 97, 2) := by decide +kernel
theorem dX10_isLetter_3 : decode cX10_isLetter 3 = .ok (.if_icmp .lt 13, 3) := by decide +kernel
theorem dX10_isLetter_16 : decode cX10_isLetter 16 = .ok (.iconst 0, 1) := by decide +kernel
theorem dX10_isLetter_17 : decode cX10_isLetter 17 = .ok (.ireturn, 1) := by decide +kernel
theorem dX10_isLetter_6 : decode cX10_isLetter 6 = .ok (.iload_n 0, 1) := by decide +kernel
theorem dX10_isLetter_7 : decode cX10_isLetter 7 = .ok (.bipush 122, 2) := by decide +kernel
theorem dX10_isLetter_9 : decode cX10_isLetter 9 = .ok (.if_icmp .gt 7, 3) := by decide +kernel
theorem dX10_isLetter_12 : decode cX10_isLetter 12 = .ok (.iconst 1, 1) := by decide +kernel
theorem dX10_isLetter_13 : decode cX10_isLetter 13 = .ok (.goto 4, 3) := by decide +kernel
set_option maxHeartbeats 4000000 in
set_option maxRecDepth 100000 in
theorem c3_X10_isLetter (l : Launch) (G : va_G) (cI cJ cB cZ : ClassId) (b0 : Int32) : Con l G (TY cI cJ cB cZ) yX10_isLetter cX10_isLetter 1 (some .boolean) ({ frames := 0, cells := 0, slots := 0, locals := 0 } : Room) [.int b0] [] (QI G (TY cI cJ cB cZ) (fun (r : Int32) (u : Unit) => (r = 0 ∧ (True)) ∨ (r = 1 ∧ (97 ≤ b0.toInt ∧ b0.toInt ≤ 122))) (fun u : Unit => [])) := by
  refine k_met (by decide) (Nat.le_of_ble_eq_true rfl) ?_
  intro p e s m below meth c A ls hC hr hlk hnm hN hZ hK hA hP hD hS hl
  have hl : lv_has ls 1 [(0, .int b0)] := hl
  generalize hQm : MQ below _ _ s _ _ A = Qm
  generalize (List.toArray _ : Array Value) = args at hC hQm ⊢
  obtain ⟨hx, hb, hml, hown, hts⟩ := id hC
  obtain ⟨H, hH⟩ : ∃ q, q = s.heap := ⟨_, rfl⟩
  obtain ⟨locs, hlo⟩ : ∃ q : List Loc, q = [] := ⟨_, rfl⟩
  have hP : va_P G cl [] H := by rw [hH]; exact hP
  have hS : va_S A s.heap H locs := by rw [hH, hlo]; exact hS
  rw [← hlo]
  rw [← hH]
  refine lv_iload_n hx hb dX10_isLetter_0 rfl (lv_at hl 0 rfl) ?_
  refine lv_bipush (v := 97) hx hb dX10_isLetter_1 (by decide) ?_
  refine lv_icmp_lt (tgt := 16) hx hb dX10_isLetter_3 (by decide) (fun c1 => ?_) (fun c1 => ?_)
  · have dc1 : b0.toInt < 97 := (fa_lt _ _).mp c1; have lbc1_0 := i_lo b0; have ubc1_0 := i_hi b0
    refine lv_iconst (v := 0) hx hb dX10_isLetter_16 (by decide) ?_
    have l_l2 : (0 : Int32).toInt = 0 := rfl
    rw [← hQm]
    exact k_zret hC hr hlk hK hP hD hS () [] rfl (by decide) rfl (Or.inl ⟨rfl, trivial⟩) (Nat.le_of_ble_eq_true rfl) (Nat.le_of_ble_eq_true rfl) dX10_isLetter_17
  · have dc1 : 97 ≤ b0.toInt := fa_nlt c1; have lbc1_0 := i_lo b0; have ubc1_0 := i_hi b0
    refine lv_iload_n hx hb dX10_isLetter_6 rfl (lv_at hl 0 rfl) ?_
    refine lv_bipush (v := 122) hx hb dX10_isLetter_7 (by decide) ?_
    refine lv_icmp_gt (tgt := 16) hx hb dX10_isLetter_9 (by decide) (fun c3 => ?_) (fun c3 => ?_)
    · have dc3 : 122 < b0.toInt := (fa_lt _ _).mp c3; have ubc3_1 := i_hi b0
      refine lv_iconst (v := 0) hx hb dX10_isLetter_16 (by decide) ?_
      have l_l4 : (0 : Int32).toInt = 0 := rfl
      rw [← hQm]
      exact k_zret hC hr hlk hK hP hD hS () [] rfl (by decide) rfl (Or.inl ⟨rfl, trivial⟩) (Nat.le_of_ble_eq_true rfl) (Nat.le_of_ble_eq_true rfl) dX10_isLetter_17
    · have dc3 : b0.toInt ≤ 122 := fa_nlt c3; have ubc3_1 := i_hi b0
      refine lv_iconst (v := 1) hx hb dX10_isLetter_12 (by decide) ?_
      refine lv_goto (tgt := 17) hx hb dX10_isLetter_13 (by decide) ?_
      have l_l5 : (1 : Int32).toInt = 1 := rfl
      rw [← hQm]
      exact k_zret hC hr hlk hK hP hD hS () [] rfl (by decide) rfl (Or.inr ⟨rfl, (show 97 ≤ b0.toInt ∧ b0.toInt ≤ 122 from by omega)⟩) (Nat.le_of_ble_eq_true rfl) (Nat.le_of_ble_eq_true rfl) dX10_isLetter_17
theorem dX10_isDigit_0 : decode cX10_isDigit 0 = .ok (.iload_n 0, 1) := by decide +kernel
theorem dX10_isDigit_1 : decode cX10_isDigit 1 = .ok (.bipush 48, 2) := by decide +kernel
theorem dX10_isDigit_3 : decode cX10_isDigit 3 = .ok (.if_icmp .lt 13, 3) := by decide +kernel
theorem dX10_isDigit_16 : decode cX10_isDigit 16 = .ok (.iconst 0, 1) := by decide +kernel
theorem dX10_isDigit_17 : decode cX10_isDigit 17 = .ok (.ireturn, 1) := by decide +kernel
theorem dX10_isDigit_6 : decode cX10_isDigit 6 = .ok (.iload_n 0, 1) := by decide +kernel
theorem dX10_isDigit_7 : decode cX10_isDigit 7 = .ok (.bipush 57, 2) := by decide +kernel
theorem dX10_isDigit_9 : decode cX10_isDigit 9 = .ok (.if_icmp .gt 7, 3) := by decide +kernel
theorem dX10_isDigit_12 : decode cX10_isDigit 12 = .ok (.iconst 1, 1) := by decide +kernel
theorem dX10_isDigit_13 : decode cX10_isDigit 13 = .ok (.goto 4, 3) := by decide +kernel
set_option maxHeartbeats 4000000 in
set_option maxRecDepth 100000 in
theorem c4_X10_isDigit (l : Launch) (G : va_G) (cI cJ cB cZ : ClassId) (b0 : Int32) : Con l G (TY cI cJ cB cZ) yX10_isDigit cX10_isDigit 1 (some .boolean) ({ frames := 0, cells := 0, slots := 0, locals := 0 } : Room) [.int b0] [] (QI G (TY cI cJ cB cZ) (fun (r : Int32) (u : Unit) => (r = 0 ∧ ((r.toInt ≠ 0 ∨ b0.toInt < 48 ∨ 57 < b0.toInt))) ∨ (r = 1 ∧ ((r.toInt ≠ 0 ∨ b0.toInt < 48 ∨ 57 < b0.toInt) ∧ 48 ≤ b0.toInt ∧ b0.toInt ≤ 57))) (fun u : Unit => [])) := by
  refine k_met (by decide) (Nat.le_of_ble_eq_true rfl) ?_
  intro p e s m below meth c A ls hC hr hlk hnm hN hZ hK hA hP hD hS hl
  have hl : lv_has ls 1 [(0, .int b0)] := hl
  generalize hQm : MQ below _ _ s _ _ A = Qm
  generalize (List.toArray _ : Array Value) = args at hC hQm ⊢
  obtain ⟨hx, hb, hml, hown, hts⟩ := id hC
  obtain ⟨H, hH⟩ : ∃ q, q = s.heap := ⟨_, rfl⟩
  obtain ⟨locs, hlo⟩ : ∃ q : List Loc, q = [] := ⟨_, rfl⟩
  have hP : va_P G cl [] H := by rw [hH]; exact hP
  have hS : va_S A s.heap H locs := by rw [hH, hlo]; exact hS
  rw [← hlo]
  rw [← hH]
  refine lv_iload_n hx hb dX10_isDigit_0 rfl (lv_at hl 0 rfl) ?_
  refine lv_bipush (v := 48) hx hb dX10_isDigit_1 (by decide) ?_
  refine lv_icmp_lt (tgt := 16) hx hb dX10_isDigit_3 (by decide) (fun c1 => ?_) (fun c1 => ?_)
  · have dc1 : b0.toInt < 48 := (fa_lt _ _).mp c1; have lbc1_0 := i_lo b0; have ubc1_0 := i_hi b0
    refine lv_iconst (v := 0) hx hb dX10_isDigit_16 (by decide) ?_
    have l_l2 : (0 : Int32).toInt = 0 := rfl
    rw [← hQm]
    exact k_zret hC hr hlk hK hP hD hS () [] rfl (by decide) rfl (Or.inl ⟨rfl, (show ((0 : Int32).toInt ≠ 0 ∨ b0.toInt < 48 ∨ 57 < b0.toInt) from by omega)⟩) (Nat.le_of_ble_eq_true rfl) (Nat.le_of_ble_eq_true rfl) dX10_isDigit_17
  · have dc1 : 48 ≤ b0.toInt := fa_nlt c1; have lbc1_0 := i_lo b0; have ubc1_0 := i_hi b0
    refine lv_iload_n hx hb dX10_isDigit_6 rfl (lv_at hl 0 rfl) ?_
    refine lv_bipush (v := 57) hx hb dX10_isDigit_7 (by decide) ?_
    refine lv_icmp_gt (tgt := 16) hx hb dX10_isDigit_9 (by decide) (fun c3 => ?_) (fun c3 => ?_)
    · have dc3 : 57 < b0.toInt := (fa_lt _ _).mp c3; have ubc3_1 := i_hi b0
      refine lv_iconst (v := 0) hx hb dX10_isDigit_16 (by decide) ?_
      have l_l4 : (0 : Int32).toInt = 0 := rfl
      rw [← hQm]
      exact k_zret hC hr hlk hK hP hD hS () [] rfl (by decide) rfl (Or.inl ⟨rfl, (show ((0 : Int32).toInt ≠ 0 ∨ b0.toInt < 48 ∨ 57 < b0.toInt) from by omega)⟩) (Nat.le_of_ble_eq_true rfl) (Nat.le_of_ble_eq_true rfl) dX10_isDigit_17
    · have dc3 : b0.toInt ≤ 57 := fa_nlt c3; have ubc3_1 := i_hi b0
      refine lv_iconst (v := 1) hx hb dX10_isDigit_12 (by decide) ?_
      refine lv_goto (tgt := 17) hx hb dX10_isDigit_13 (by decide) ?_
      have l_l5 : (1 : Int32).toInt = 1 := rfl
      rw [← hQm]
      exact k_zret hC hr hlk hK hP hD hS () [] rfl (by decide) rfl (Or.inr ⟨rfl, (show ((1 : Int32).toInt ≠ 0 ∨ b0.toInt < 48 ∨ 57 < b0.toInt) ∧ 48 ≤ b0.toInt ∧ b0.toInt ≤ 57 from by omega)⟩) (Nat.le_of_ble_eq_true rfl) (Nat.le_of_ble_eq_true rfl) dX10_isDigit_17
theorem dX10_isKept_0 : decode cX10_isKept 0 = .ok (.lload_n 0, 1) := by decide +kernel
theorem dX10_isKept_1 : decode cX10_isKept 1 = .ok (.ldc2_w 17, 3) := by decide +kernel
set_option maxRecDepth 100000 in
theorem kl_X10_17 : Cond.constantLong RX10 17 1634889075 ∈ gw := gm (List.mem_of_getElem? (i := 1482) (by decide +kernel)) rfl
theorem dX10_isKept_4 : decode cX10_isKept 4 = .ok (.lcmp, 1) := by decide +kernel
theorem dX10_isKept_5 : decode cX10_isKept 5 = .ok (.ifCond .eq 75, 3) := by decide +kernel
theorem dX10_isKept_80 : decode cX10_isKept 80 = .ok (.iconst 1, 1) := by decide +kernel
theorem dX10_isKept_81 : decode cX10_isKept 81 = .ok (.goto 4, 3) := by decide +kernel
theorem dX10_isKept_85 : decode cX10_isKept 85 = .ok (.istore_n 2, 1) := by decide +kernel
theorem dX10_isKept_86 : decode cX10_isKept 86 = .ok (.iload_n 2, 1) := by decide +kernel
theorem dX10_isKept_87 : decode cX10_isKept 87 = .ok (.ifCond .ne 75, 3) := by decide +kernel
theorem dX10_isKept_162 : decode cX10_isKept 162 = .ok (.iconst 1, 1) := by decide +kernel
theorem dX10_isKept_163 : decode cX10_isKept 163 = .ok (.goto 4, 3) := by decide +kernel
theorem dX10_isKept_167 : decode cX10_isKept 167 = .ok (.ireturn, 1) := by decide +kernel
theorem dX10_isKept_8 : decode cX10_isKept 8 = .ok (.lload_n 0, 1) := by decide +kernel
theorem dX10_isKept_9 : decode cX10_isKept 9 = .ok (.ldc2_w 19, 3) := by decide +kernel
set_option maxRecDepth 100000 in
theorem kl_X10_19 : Cond.constantLong RX10 19 29807 ∈ gw := gm (List.mem_of_getElem? (i := 1483) (by decide +kernel)) rfl
theorem dX10_isKept_12 : decode cX10_isKept 12 = .ok (.lcmp, 1) := by decide +kernel
theorem dX10_isKept_13 : decode cX10_isKept 13 = .ok (.ifCond .eq 67, 3) := by decide +kernel
theorem dX10_isKept_16 : decode cX10_isKept 16 = .ok (.lload_n 0, 1) := by decide +kernel
theorem dX10_isKept_17 : decode cX10_isKept 17 = .ok (.ldc2_w 21, 3) := by decide +kernel
set_option maxRecDepth 100000 in
theorem kl_X10_21 : Cond.constantLong RX10 21 1717921132 ∈ gw := gm (List.mem_of_getElem? (i := 1484) (by decide +kernel)) rfl
theorem dX10_isKept_20 : decode cX10_isKept 20 = .ok (.lcmp, 1) := by decide +kernel
theorem dX10_isKept_21 : decode cX10_isKept 21 = .ok (.ifCond .eq 59, 3) := by decide +kernel
theorem dX10_isKept_24 : decode cX10_isKept 24 = .ok (.lload_n 0, 1) := by decide +kernel
theorem dX10_isKept_25 : decode cX10_isKept 25 = .ok (.ldc2_w 23, 3) := by decide +kernel
set_option maxRecDepth 100000 in
theorem kl_X10_23 : Cond.constantLong RX10 23 482906304100 ∈ gw := gm (List.mem_of_getElem? (i := 1485) (by decide +kernel)) rfl
theorem dX10_isKept_28 : decode cX10_isKept 28 = .ok (.lcmp, 1) := by decide +kernel
theorem dX10_isKept_29 : decode cX10_isKept 29 = .ok (.ifCond .eq 51, 3) := by decide +kernel
theorem dX10_isKept_32 : decode cX10_isKept 32 = .ok (.lload_n 0, 1) := by decide +kernel
theorem dX10_isKept_33 : decode cX10_isKept 33 = .ok (.ldc2_w 25, 3) := by decide +kernel
set_option maxRecDepth 100000 in
theorem kl_X10_25 : Cond.constantLong RX10 25 1718775661 ∈ gw := gm (List.mem_of_getElem? (i := 1486) (by decide +kernel)) rfl
theorem dX10_isKept_36 : decode cX10_isKept 36 = .ok (.lcmp, 1) := by decide +kernel
theorem dX10_isKept_37 : decode cX10_isKept 37 = .ok (.ifCond .eq 43, 3) := by decide +kernel
theorem dX10_isKept_40 : decode cX10_isKept 40 = .ok (.lload_n 0, 1) := by decide +kernel
theorem dX10_isKept_41 : decode cX10_isKept 41 = .ok (.ldc2_w 27, 3) := by decide +kernel
set_option maxRecDepth 100000 in
theorem kl_X10_27 : Cond.constantLong RX10 27 495874698853 ∈ gw := gm (List.mem_of_getElem? (i := 1487) (by decide +kernel)) rfl
theorem dX10_isKept_44 : decode cX10_isKept 44 = .ok (.lcmp, 1) := by decide +kernel
theorem dX10_isKept_45 : decode cX10_isKept 45 = .ok (.ifCond .eq 35, 3) := by decide +kernel
theorem dX10_isKept_48 : decode cX10_isKept 48 = .ok (.lload_n 0, 1) := by decide +kernel
theorem dX10_isKept_49 : decode cX10_isKept 49 = .ok (.ldc2_w 29, 3) := by decide +kernel
set_option maxRecDepth 100000 in
theorem kl_X10_29 : Cond.constantLong RX10 29 1935767923 ∈ gw := gm (List.mem_of_getElem? (i := 1488) (by decide +kernel)) rfl
theorem dX10_isKept_52 : decode cX10_isKept 52 = .ok (.lcmp, 1) := by decide +kernel
theorem dX10_isKept_53 : decode cX10_isKept 53 = .ok (.ifCond .eq 27, 3) := by decide +kernel
theorem dX10_isKept_56 : decode cX10_isKept 56 = .ok (.lload_n 0, 1) := by decide +kernel
theorem dX10_isKept_57 : decode cX10_isKept 57 = .ok (.ldc2_w 31, 3) := by decide +kernel
set_option maxRecDepth 100000 in
theorem kl_X10_31 : Cond.constantLong RX10 31 26990 ∈ gw := gm (List.mem_of_getElem? (i := 1489) (by decide +kernel)) rfl
theorem dX10_isKept_60 : decode cX10_isKept 60 = .ok (.lcmp, 1) := by decide +kernel
theorem dX10_isKept_61 : decode cX10_isKept 61 = .ok (.ifCond .eq 19, 3) := by decide +kernel
theorem dX10_isKept_64 : decode cX10_isKept 64 = .ok (.lload_n 0, 1) := by decide +kernel
theorem dX10_isKept_65 : decode cX10_isKept 65 = .ok (.ldc2_w 33, 3) := by decide +kernel
set_option maxRecDepth 100000 in
theorem kl_X10_33 : Cond.constantLong RX10 33 7300710 ∈ gw := gm (List.mem_of_getElem? (i := 1490) (by decide +kernel)) rfl
theorem dX10_isKept_68 : decode cX10_isKept 68 = .ok (.lcmp, 1) := by decide +kernel
theorem dX10_isKept_69 : decode cX10_isKept 69 = .ok (.ifCond .eq 11, 3) := by decide +kernel
theorem dX10_isKept_72 : decode cX10_isKept 72 = .ok (.lload_n 0, 1) := by decide +kernel
theorem dX10_isKept_73 : decode cX10_isKept 73 = .ok (.ldc2_w 35, 3) := by decide +kernel
set_option maxRecDepth 100000 in
theorem kl_X10_35 : Cond.constantLong RX10 35 2003792494 ∈ gw := gm (List.mem_of_getElem? (i := 1491) (by decide +kernel)) rfl
theorem dX10_isKept_76 : decode cX10_isKept 76 = .ok (.lcmp, 1) := by decide +kernel
theorem dX10_isKept_77 : decode cX10_isKept 77 = .ok (.ifCond .ne 7, 3) := by decide +kernel
theorem dX10_isKept_84 : decode cX10_isKept 84 = .ok (.iconst 0, 1) := by decide +kernel
theorem dX10_isKept_90 : decode cX10_isKept 90 = .ok (.lload_n 0, 1) := by decide +kernel
theorem dX10_isKept_91 : decode cX10_isKept 91 = .ok (.ldc2_w 37, 3) := by decide +kernel
set_option maxRecDepth 100000 in
theorem kl_X10_37 : Cond.constantLong RX10 37 120265316263282 ∈ gw := gm (List.mem_of_getElem? (i := 1492) (by decide +kernel)) rfl
theorem dX10_isKept_94 : decode cX10_isKept 94 = .ok (.lcmp, 1) := by decide +kernel
theorem dX10_isKept_95 : decode cX10_isKept 95 = .ok (.ifCond .eq 67, 3) := by decide +kernel
theorem dX10_isKept_98 : decode cX10_isKept 98 = .ok (.lload_n 0, 1) := by decide +kernel
theorem dX10_isKept_99 : decode cX10_isKept 99 = .ok (.ldc2_w 39, 3) := by decide +kernel
set_option maxRecDepth 100000 in
theorem kl_X10_39 : Cond.constantLong RX10 39 512802514792 ∈ gw := gm (List.mem_of_getElem? (i := 1493) (by decide +kernel)) rfl
theorem dX10_isKept_102 : decode cX10_isKept 102 = .ok (.lcmp, 1) := by decide +kernel
theorem dX10_isKept_103 : decode cX10_isKept 103 = .ok (.ifCond .eq 59, 3) := by decide +kernel
theorem dX10_isKept_106 : decode cX10_isKept 106 = .ok (.lload_n 0, 1) := by decide +kernel
theorem dX10_isKept_107 : decode cX10_isKept 107 = .ok (.ldc2_w 41, 3) := by decide +kernel
set_option maxRecDepth 100000 in
theorem kl_X10_41 : Cond.constantLong RX10 41 2003399784 ∈ gw := gm (List.mem_of_getElem? (i := 1494) (by decide +kernel)) rfl
theorem dX10_isKept_110 : decode cX10_isKept 110 = .ok (.lcmp, 1) := by decide +kernel
theorem dX10_isKept_111 : decode cX10_isKept 111 = .ok (.ifCond .eq 51, 3) := by decide +kernel
theorem dX10_isKept_114 : decode cX10_isKept 114 = .ok (.lload_n 0, 1) := by decide +kernel
theorem dX10_isKept_115 : decode cX10_isKept 115 = .ok (.ldc2_w 43, 3) := by decide +kernel
set_option maxRecDepth 100000 in
theorem kl_X10_43 : Cond.constantLong RX10 43 25209 ∈ gw := gm (List.mem_of_getElem? (i := 1495) (by decide +kernel)) rfl
theorem dX10_isKept_118 : decode cX10_isKept 118 = .ok (.lcmp, 1) := by decide +kernel
theorem dX10_isKept_119 : decode cX10_isKept 119 = .ok (.ifCond .eq 43, 3) := by decide +kernel
theorem dX10_isKept_122 : decode cX10_isKept 122 = .ok (.lload_n 0, 1) := by decide +kernel
theorem dX10_isKept_123 : decode cX10_isKept 123 = .ok (.ldc2_w 45, 3) := by decide +kernel
set_option maxRecDepth 100000 in
theorem kl_X10_45 : Cond.constantLong RX10 45 1818584692 ∈ gw := gm (List.mem_of_getElem? (i := 1496) (by decide +kernel)) rfl
theorem dX10_isKept_126 : decode cX10_isKept 126 = .ok (.lcmp, 1) := by decide +kernel
theorem dX10_isKept_127 : decode cX10_isKept 127 = .ok (.ifCond .eq 35, 3) := by decide +kernel
theorem dX10_isKept_130 : decode cX10_isKept 130 = .ok (.lload_n 0, 1) := by decide +kernel
theorem dX10_isKept_131 : decode cX10_isKept 131 = .ok (.ldc2_w 47, 3) := by decide +kernel
set_option maxRecDepth 100000 in
theorem kl_X10_47 : Cond.constantLong RX10 47 491394656372 ∈ gw := gm (List.mem_of_getElem? (i := 1497) (by decide +kernel)) rfl
theorem dX10_isKept_134 : decode cX10_isKept 134 = .ok (.lcmp, 1) := by decide +kernel
theorem dX10_isKept_135 : decode cX10_isKept 135 = .ok (.ifCond .eq 27, 3) := by decide +kernel
theorem dX10_isKept_138 : decode cX10_isKept 138 = .ok (.lload_n 0, 1) := by decide +kernel
theorem dX10_isKept_139 : decode cX10_isKept 139 = .ok (.ldc2_w 49, 3) := by decide +kernel
set_option maxRecDepth 100000 in
theorem kl_X10_49 : Cond.constantLong RX10 49 1702258030 ∈ gw := gm (List.mem_of_getElem? (i := 1498) (by decide +kernel)) rfl
theorem dX10_isKept_142 : decode cX10_isKept 142 = .ok (.lcmp, 1) := by decide +kernel
theorem dX10_isKept_143 : decode cX10_isKept 143 = .ok (.ifCond .eq 19, 3) := by decide +kernel
theorem dX10_isKept_146 : decode cX10_isKept 146 = .ok (.lload_n 0, 1) := by decide +kernel
theorem dX10_isKept_147 : decode cX10_isKept 147 = .ok (.ldc2_w 51, 3) := by decide +kernel
set_option maxRecDepth 100000 in
theorem kl_X10_51 : Cond.constantLong RX10 51 1935764581 ∈ gw := gm (List.mem_of_getElem? (i := 1499) (by decide +kernel)) rfl
theorem dX10_isKept_150 : decode cX10_isKept 150 = .ok (.lcmp, 1) := by decide +kernel
theorem dX10_isKept_151 : decode cX10_isKept 151 = .ok (.ifCond .eq 11, 3) := by decide +kernel
theorem dX10_isKept_154 : decode cX10_isKept 154 = .ok (.lload_n 0, 1) := by decide +kernel
theorem dX10_isKept_155 : decode cX10_isKept 155 = .ok (.ldc2_w 53, 3) := by decide +kernel
set_option maxRecDepth 100000 in
theorem kl_X10_53 : Cond.constantLong RX10 53 482955846501 ∈ gw := gm (List.mem_of_getElem? (i := 1500) (by decide +kernel)) rfl
theorem dX10_isKept_158 : decode cX10_isKept 158 = .ok (.lcmp, 1) := by decide +kernel
theorem dX10_isKept_159 : decode cX10_isKept 159 = .ok (.ifCond .ne 7, 3) := by decide +kernel
theorem dX10_isKept_166 : decode cX10_isKept 166 = .ok (.iconst 0, 1) := by decide +kernel
set_option maxHeartbeats 4000000 in
set_option maxRecDepth 100000 in
theorem c5_X10_isKept (l : Launch) (G : va_G) (cI cJ cB cZ : ClassId) (b0 : Int64) : Con l G (TY cI cJ cB cZ) yX10_isKept cX10_isKept 3 (some .boolean) ({ frames := 0, cells := 0, slots := 0, locals := 0 } : Room) [.long b0] [] (QI G (TY cI cJ cB cZ) (fun (r : Int32) (u : Unit) => (0 ≤ r.toInt ∧ r.toInt ≤ 1)) (fun u : Unit => [])) := by
  refine k_met (by decide) (Nat.le_of_ble_eq_true rfl) ?_
  intro p e s m below meth c A ls hC hr hlk hnm hN hZ hK hA hP hD hS hl
  have hl : lv_has ls 3 [(0, .long b0)] := hl
  generalize hQm : MQ below _ _ s _ _ A = Qm
  generalize (List.toArray _ : Array Value) = args at hC hQm ⊢
  obtain ⟨hx, hb, hml, hown, hts⟩ := id hC
  obtain ⟨H, hH⟩ : ∃ q, q = s.heap := ⟨_, rfl⟩
  obtain ⟨locs, hlo⟩ : ∃ q : List Loc, q = [] := ⟨_, rfl⟩
  have hP : va_P G cl [] H := by rw [hH]; exact hP
  have hS : va_S A s.heap H locs := by rw [hH, hlo]; exact hS
  rw [← hlo]
  rw [← hH]
  refine lv_lload_n hx hb dX10_isKept_0 rfl (lv_at hl 0 rfl) ?_
  refine lv_ldc2 (v := 1634889075) hx hb hown (hts _ kl_X10_17) dX10_isKept_1 ?_
  refine W.lcmp hx hb dX10_isKept_4 ?_
  refine lv_topi (fun z1 _ => ?_)
  refine lv_if_eq (tgt := 80) hx hb dX10_isKept_5 (by decide) (fun c2 => ?_) (fun c2 => ?_)
  · have dc2 : z1.toInt = 0 := (fa_eq _ _).mp c2; have lbc2_0 := i_lo z1; have ubc2_0 := i_hi z1
    refine lv_iconst (v := 1) hx hb dX10_isKept_80 (by decide) ?_
    refine lv_goto (tgt := 85) hx hb dX10_isKept_81 (by decide) ?_
    refine lv_istore_n (lv' := [(2, .int 1), (0, .long b0)]) hx hb dX10_isKept_85 rfl hl (by decide) rfl (fun ls hl => ?_)
    refine lv_iload_n hx hb dX10_isKept_86 rfl (lv_at hl 0 rfl) ?_
    refine lv_if_ne (tgt := 162) hx hb dX10_isKept_87 (by decide) (fun _ => ?_) (fun c_ => absurd c_ (by decide +kernel))
    refine lv_iconst (v := 1) hx hb dX10_isKept_162 (by decide) ?_
    refine lv_goto (tgt := 167) hx hb dX10_isKept_163 (by decide) ?_
    have l_l3 : (1 : Int32).toInt = 1 := rfl
    rw [← hQm]
    exact k_zret hC hr hlk hK hP hD hS () [] rfl (by decide) rfl (show 0 ≤ (1 : Int32).toInt ∧ (1 : Int32).toInt ≤ 1 from by omega) (Nat.le_of_ble_eq_true rfl) (Nat.le_of_ble_eq_true rfl) dX10_isKept_167
  · have dc2 : z1.toInt ≠ 0 := fa_ne c2; have lbc2_0 := i_lo z1; have ubc2_0 := i_hi z1
    refine lv_lload_n hx hb dX10_isKept_8 rfl (lv_at hl 0 rfl) ?_
    refine lv_ldc2 (v := 29807) hx hb hown (hts _ kl_X10_19) dX10_isKept_9 ?_
    refine W.lcmp hx hb dX10_isKept_12 ?_
    refine lv_topi (fun z4 _ => ?_)
    refine lv_if_eq (tgt := 80) hx hb dX10_isKept_13 (by decide) (fun c5 => ?_) (fun c5 => ?_)
    · have dc5 : z4.toInt = 0 := (fa_eq _ _).mp c5; have lbc5_0 := i_lo z4; have ubc5_0 := i_hi z4
      refine lv_iconst (v := 1) hx hb dX10_isKept_80 (by decide) ?_
      refine lv_goto (tgt := 85) hx hb dX10_isKept_81 (by decide) ?_
      refine lv_istore_n (lv' := [(2, .int 1), (0, .long b0)]) hx hb dX10_isKept_85 rfl hl (by decide) rfl (fun ls hl => ?_)
      refine lv_iload_n hx hb dX10_isKept_86 rfl (lv_at hl 0 rfl) ?_
      refine lv_if_ne (tgt := 162) hx hb dX10_isKept_87 (by decide) (fun _ => ?_) (fun c_ => absurd c_ (by decide +kernel))
      refine lv_iconst (v := 1) hx hb dX10_isKept_162 (by decide) ?_
      refine lv_goto (tgt := 167) hx hb dX10_isKept_163 (by decide) ?_
      have l_l6 : (1 : Int32).toInt = 1 := rfl
      rw [← hQm]
      exact k_zret hC hr hlk hK hP hD hS () [] rfl (by decide) rfl (show 0 ≤ (1 : Int32).toInt ∧ (1 : Int32).toInt ≤ 1 from by omega) (Nat.le_of_ble_eq_true rfl) (Nat.le_of_ble_eq_true rfl) dX10_isKept_167
    · have dc5 : z4.toInt ≠ 0 := fa_ne c5; have lbc5_0 := i_lo z4; have ubc5_0 := i_hi z4
      refine lv_lload_n hx hb dX10_isKept_16 rfl (lv_at hl 0 rfl) ?_
      refine lv_ldc2 (v := 1717921132) hx hb hown (hts _ kl_X10_21) dX10_isKept_17 ?_
      refine W.lcmp hx hb dX10_isKept_20 ?_
      refine lv_topi (fun z7 _ => ?_)
      refine lv_if_eq (tgt := 80) hx hb dX10_isKept_21 (by decide) (fun c8 => ?_) (fun c8 => ?_)
      · have dc8 : z7.toInt = 0 := (fa_eq _ _).mp c8; have lbc8_0 := i_lo z7; have ubc8_0 := i_hi z7
        refine lv_iconst (v := 1) hx hb dX10_isKept_80 (by decide) ?_
        refine lv_goto (tgt := 85) hx hb dX10_isKept_81 (by decide) ?_
        refine lv_istore_n (lv' := [(2, .int 1), (0, .long b0)]) hx hb dX10_isKept_85 rfl hl (by decide) rfl (fun ls hl => ?_)
        refine lv_iload_n hx hb dX10_isKept_86 rfl (lv_at hl 0 rfl) ?_
        refine lv_if_ne (tgt := 162) hx hb dX10_isKept_87 (by decide) (fun _ => ?_) (fun c_ => absurd c_ (by decide +kernel))
        refine lv_iconst (v := 1) hx hb dX10_isKept_162 (by decide) ?_
        refine lv_goto (tgt := 167) hx hb dX10_isKept_163 (by decide) ?_
        have l_l9 : (1 : Int32).toInt = 1 := rfl
        rw [← hQm]
        exact k_zret hC hr hlk hK hP hD hS () [] rfl (by decide) rfl (show 0 ≤ (1 : Int32).toInt ∧ (1 : Int32).toInt ≤ 1 from by omega) (Nat.le_of_ble_eq_true rfl) (Nat.le_of_ble_eq_true rfl) dX10_isKept_167
      · have dc8 : z7.toInt ≠ 0 := fa_ne c8; have lbc8_0 := i_lo z7; have ubc8_0 := i_hi z7
        refine lv_lload_n hx hb dX10_isKept_24 rfl (lv_at hl 0 rfl) ?_
        refine lv_ldc2 (v := 482906304100) hx hb hown (hts _ kl_X10_23) dX10_isKept_25 ?_
        refine W.lcmp hx hb dX10_isKept_28 ?_
        refine lv_topi (fun z10 _ => ?_)
        refine lv_if_eq (tgt := 80) hx hb dX10_isKept_29 (by decide) (fun c11 => ?_) (fun c11 => ?_)
        · have dc11 : z10.toInt = 0 := (fa_eq _ _).mp c11; have lbc11_0 := i_lo z10; have ubc11_0 := i_hi z10
          refine lv_iconst (v := 1) hx hb dX10_isKept_80 (by decide) ?_
          refine lv_goto (tgt := 85) hx hb dX10_isKept_81 (by decide) ?_
          refine lv_istore_n (lv' := [(2, .int 1), (0, .long b0)]) hx hb dX10_isKept_85 rfl hl (by decide) rfl (fun ls hl => ?_)
          refine lv_iload_n hx hb dX10_isKept_86 rfl (lv_at hl 0 rfl) ?_
          refine lv_if_ne (tgt := 162) hx hb dX10_isKept_87 (by decide) (fun _ => ?_) (fun c_ => absurd c_ (by decide +kernel))
          refine lv_iconst (v := 1) hx hb dX10_isKept_162 (by decide) ?_
          refine lv_goto (tgt := 167) hx hb dX10_isKept_163 (by decide) ?_
          have l_l12 : (1 : Int32).toInt = 1 := rfl
          rw [← hQm]
          exact k_zret hC hr hlk hK hP hD hS () [] rfl (by decide) rfl (show 0 ≤ (1 : Int32).toInt ∧ (1 : Int32).toInt ≤ 1 from by omega) (Nat.le_of_ble_eq_true rfl) (Nat.le_of_ble_eq_true rfl) dX10_isKept_167
        · have dc11 : z10.toInt ≠ 0 := fa_ne c11; have lbc11_0 := i_lo z10; have ubc11_0 := i_hi z10
          refine lv_lload_n hx hb dX10_isKept_32 rfl (lv_at hl 0 rfl) ?_
          refine lv_ldc2 (v := 1718775661) hx hb hown (hts _ kl_X10_25) dX10_isKept_33 ?_
          refine W.lcmp hx hb dX10_isKept_36 ?_
          refine lv_topi (fun z13 _ => ?_)
          refine lv_if_eq (tgt := 80) hx hb dX10_isKept_37 (by decide) (fun c14 => ?_) (fun c14 => ?_)
          · have dc14 : z13.toInt = 0 := (fa_eq _ _).mp c14; have lbc14_0 := i_lo z13; have ubc14_0 := i_hi z13
            refine lv_iconst (v := 1) hx hb dX10_isKept_80 (by decide) ?_
            refine lv_goto (tgt := 85) hx hb dX10_isKept_81 (by decide) ?_
            refine lv_istore_n (lv' := [(2, .int 1), (0, .long b0)]) hx hb dX10_isKept_85 rfl hl (by decide) rfl (fun ls hl => ?_)
            refine lv_iload_n hx hb dX10_isKept_86 rfl (lv_at hl 0 rfl) ?_
            refine lv_if_ne (tgt := 162) hx hb dX10_isKept_87 (by decide) (fun _ => ?_) (fun c_ => absurd c_ (by decide +kernel))
            refine lv_iconst (v := 1) hx hb dX10_isKept_162 (by decide) ?_
            refine lv_goto (tgt := 167) hx hb dX10_isKept_163 (by decide) ?_
            have l_l15 : (1 : Int32).toInt = 1 := rfl
            rw [← hQm]
            exact k_zret hC hr hlk hK hP hD hS () [] rfl (by decide) rfl (show 0 ≤ (1 : Int32).toInt ∧ (1 : Int32).toInt ≤ 1 from by omega) (Nat.le_of_ble_eq_true rfl) (Nat.le_of_ble_eq_true rfl) dX10_isKept_167
          · have dc14 : z13.toInt ≠ 0 := fa_ne c14; have lbc14_0 := i_lo z13; have ubc14_0 := i_hi z13
            refine lv_lload_n hx hb dX10_isKept_40 rfl (lv_at hl 0 rfl) ?_
            refine lv_ldc2 (v := 495874698853) hx hb hown (hts _ kl_X10_27) dX10_isKept_41 ?_
            refine W.lcmp hx hb dX10_isKept_44 ?_
            refine lv_topi (fun z16 _ => ?_)
            refine lv_if_eq (tgt := 80) hx hb dX10_isKept_45 (by decide) (fun c17 => ?_) (fun c17 => ?_)
            · have dc17 : z16.toInt = 0 := (fa_eq _ _).mp c17; have lbc17_0 := i_lo z16; have ubc17_0 := i_hi z16
              refine lv_iconst (v := 1) hx hb dX10_isKept_80 (by decide) ?_
              refine lv_goto (tgt := 85) hx hb dX10_isKept_81 (by decide) ?_
              refine lv_istore_n (lv' := [(2, .int 1), (0, .long b0)]) hx hb dX10_isKept_85 rfl hl (by decide) rfl (fun ls hl => ?_)
              refine lv_iload_n hx hb dX10_isKept_86 rfl (lv_at hl 0 rfl) ?_
              refine lv_if_ne (tgt := 162) hx hb dX10_isKept_87 (by decide) (fun _ => ?_) (fun c_ => absurd c_ (by decide +kernel))
              refine lv_iconst (v := 1) hx hb dX10_isKept_162 (by decide) ?_
              refine lv_goto (tgt := 167) hx hb dX10_isKept_163 (by decide) ?_
              have l_l18 : (1 : Int32).toInt = 1 := rfl
              rw [← hQm]
              exact k_zret hC hr hlk hK hP hD hS () [] rfl (by decide) rfl (show 0 ≤ (1 : Int32).toInt ∧ (1 : Int32).toInt ≤ 1 from by omega) (Nat.le_of_ble_eq_true rfl) (Nat.le_of_ble_eq_true rfl) dX10_isKept_167
            · have dc17 : z16.toInt ≠ 0 := fa_ne c17; have lbc17_0 := i_lo z16; have ubc17_0 := i_hi z16
              refine lv_lload_n hx hb dX10_isKept_48 rfl (lv_at hl 0 rfl) ?_
              refine lv_ldc2 (v := 1935767923) hx hb hown (hts _ kl_X10_29) dX10_isKept_49 ?_
              refine W.lcmp hx hb dX10_isKept_52 ?_
              refine lv_topi (fun z19 _ => ?_)
              refine lv_if_eq (tgt := 80) hx hb dX10_isKept_53 (by decide) (fun c20 => ?_) (fun c20 => ?_)
              · have dc20 : z19.toInt = 0 := (fa_eq _ _).mp c20; have lbc20_0 := i_lo z19; have ubc20_0 := i_hi z19
                refine lv_iconst (v := 1) hx hb dX10_isKept_80 (by decide) ?_
                refine lv_goto (tgt := 85) hx hb dX10_isKept_81 (by decide) ?_
                refine lv_istore_n (lv' := [(2, .int 1), (0, .long b0)]) hx hb dX10_isKept_85 rfl hl (by decide) rfl (fun ls hl => ?_)
                refine lv_iload_n hx hb dX10_isKept_86 rfl (lv_at hl 0 rfl) ?_
                refine lv_if_ne (tgt := 162) hx hb dX10_isKept_87 (by decide) (fun _ => ?_) (fun c_ => absurd c_ (by decide +kernel))
                refine lv_iconst (v := 1) hx hb dX10_isKept_162 (by decide) ?_
                refine lv_goto (tgt := 167) hx hb dX10_isKept_163 (by decide) ?_
                have l_l21 : (1 : Int32).toInt = 1 := rfl
                rw [← hQm]
                exact k_zret hC hr hlk hK hP hD hS () [] rfl (by decide) rfl (show 0 ≤ (1 : Int32).toInt ∧ (1 : Int32).toInt ≤ 1 from by omega) (Nat.le_of_ble_eq_true rfl) (Nat.le_of_ble_eq_true rfl) dX10_isKept_167
              · have dc20 : z19.toInt ≠ 0 := fa_ne c20; have lbc20_0 := i_lo z19; have ubc20_0 := i_hi z19
                refine lv_lload_n hx hb dX10_isKept_56 rfl (lv_at hl 0 rfl) ?_
                refine lv_ldc2 (v := 26990) hx hb hown (hts _ kl_X10_31) dX10_isKept_57 ?_
                refine W.lcmp hx hb dX10_isKept_60 ?_
                refine lv_topi (fun z22 _ => ?_)
                refine lv_if_eq (tgt := 80) hx hb dX10_isKept_61 (by decide) (fun c23 => ?_) (fun c23 => ?_)
                · have dc23 : z22.toInt = 0 := (fa_eq _ _).mp c23; have lbc23_0 := i_lo z22; have ubc23_0 := i_hi z22
                  refine lv_iconst (v := 1) hx hb dX10_isKept_80 (by decide) ?_
                  refine lv_goto (tgt := 85) hx hb dX10_isKept_81 (by decide) ?_
                  refine lv_istore_n (lv' := [(2, .int 1), (0, .long b0)]) hx hb dX10_isKept_85 rfl hl (by decide) rfl (fun ls hl => ?_)
                  refine lv_iload_n hx hb dX10_isKept_86 rfl (lv_at hl 0 rfl) ?_
                  refine lv_if_ne (tgt := 162) hx hb dX10_isKept_87 (by decide) (fun _ => ?_) (fun c_ => absurd c_ (by decide +kernel))
                  refine lv_iconst (v := 1) hx hb dX10_isKept_162 (by decide) ?_
                  refine lv_goto (tgt := 167) hx hb dX10_isKept_163 (by decide) ?_
                  have l_l24 : (1 : Int32).toInt = 1 := rfl
                  rw [← hQm]
                  exact k_zret hC hr hlk hK hP hD hS () [] rfl (by decide) rfl (show 0 ≤ (1 : Int32).toInt ∧ (1 : Int32).toInt ≤ 1 from by omega) (Nat.le_of_ble_eq_true rfl) (Nat.le_of_ble_eq_true rfl) dX10_isKept_167
                · have dc23 : z22.toInt ≠ 0 := fa_ne c23; have lbc23_0 := i_lo z22; have ubc23_0 := i_hi z22
                  refine lv_lload_n hx hb dX10_isKept_64 rfl (lv_at hl 0 rfl) ?_
                  refine lv_ldc2 (v := 7300710) hx hb hown (hts _ kl_X10_33) dX10_isKept_65 ?_
                  refine W.lcmp hx hb dX10_isKept_68 ?_
                  refine lv_topi (fun z25 _ => ?_)
                  refine lv_if_eq (tgt := 80) hx hb dX10_isKept_69 (by decide) (fun c26 => ?_) (fun c26 => ?_)
                  · have dc26 : z25.toInt = 0 := (fa_eq _ _).mp c26; have lbc26_0 := i_lo z25; have ubc26_0 := i_hi z25
                    refine lv_iconst (v := 1) hx hb dX10_isKept_80 (by decide) ?_
                    refine lv_goto (tgt := 85) hx hb dX10_isKept_81 (by decide) ?_
                    refine lv_istore_n (lv' := [(2, .int 1), (0, .long b0)]) hx hb dX10_isKept_85 rfl hl (by decide) rfl (fun ls hl => ?_)
                    refine lv_iload_n hx hb dX10_isKept_86 rfl (lv_at hl 0 rfl) ?_
                    refine lv_if_ne (tgt := 162) hx hb dX10_isKept_87 (by decide) (fun _ => ?_) (fun c_ => absurd c_ (by decide +kernel))
                    refine lv_iconst (v := 1) hx hb dX10_isKept_162 (by decide) ?_
                    refine lv_goto (tgt := 167) hx hb dX10_isKept_163 (by decide) ?_
                    have l_l27 : (1 : Int32).toInt = 1 := rfl
                    rw [← hQm]
                    exact k_zret hC hr hlk hK hP hD hS () [] rfl (by decide) rfl (show 0 ≤ (1 : Int32).toInt ∧ (1 : Int32).toInt ≤ 1 from by omega) (Nat.le_of_ble_eq_true rfl) (Nat.le_of_ble_eq_true rfl) dX10_isKept_167
                  · have dc26 : z25.toInt ≠ 0 := fa_ne c26; have lbc26_0 := i_lo z25; have ubc26_0 := i_hi z25
                    refine lv_lload_n hx hb dX10_isKept_72 rfl (lv_at hl 0 rfl) ?_
                    refine lv_ldc2 (v := 2003792494) hx hb hown (hts _ kl_X10_35) dX10_isKept_73 ?_
                    refine W.lcmp hx hb dX10_isKept_76 ?_
                    refine lv_topi (fun z28 _ => ?_)
                    refine lv_if_ne (tgt := 84) hx hb dX10_isKept_77 (by decide) (fun c29 => ?_) (fun c29 => ?_)
                    · have dc29 : z28.toInt ≠ 0 := fa_ne c29; have lbc29_0 := i_lo z28; have ubc29_0 := i_hi z28
                      refine lv_iconst (v := 0) hx hb dX10_isKept_84 (by decide) ?_
                      refine lv_istore_n (lv' := [(2, .int 0), (0, .long b0)]) hx hb dX10_isKept_85 rfl hl (by decide) rfl (fun ls hl => ?_)
                      refine lv_iload_n hx hb dX10_isKept_86 rfl (lv_at hl 0 rfl) ?_
                      refine lv_if_ne (tgt := 162) hx hb dX10_isKept_87 (by decide) (fun c_ => absurd (by decide +kernel) c_) (fun _ => ?_)
                      refine lv_lload_n hx hb dX10_isKept_90 rfl (lv_at hl 1 rfl) ?_
                      refine lv_ldc2 (v := 120265316263282) hx hb hown (hts _ kl_X10_37) dX10_isKept_91 ?_
                      refine W.lcmp hx hb dX10_isKept_94 ?_
                      refine lv_topi (fun z30 _ => ?_)
                      refine lv_if_eq (tgt := 162) hx hb dX10_isKept_95 (by decide) (fun c31 => ?_) (fun c31 => ?_)
                      · have dc31 : z30.toInt = 0 := (fa_eq _ _).mp c31; have lbc31_0 := i_lo z30; have ubc31_0 := i_hi z30
                        refine lv_iconst (v := 1) hx hb dX10_isKept_162 (by decide) ?_
                        refine lv_goto (tgt := 167) hx hb dX10_isKept_163 (by decide) ?_
                        have l_l32 : (1 : Int32).toInt = 1 := rfl
                        rw [← hQm]
                        exact k_zret hC hr hlk hK hP hD hS () [] rfl (by decide) rfl (show 0 ≤ (1 : Int32).toInt ∧ (1 : Int32).toInt ≤ 1 from by omega) (Nat.le_of_ble_eq_true rfl) (Nat.le_of_ble_eq_true rfl) dX10_isKept_167
                      · have dc31 : z30.toInt ≠ 0 := fa_ne c31; have lbc31_0 := i_lo z30; have ubc31_0 := i_hi z30
                        refine lv_lload_n hx hb dX10_isKept_98 rfl (lv_at hl 1 rfl) ?_
                        refine lv_ldc2 (v := 512802514792) hx hb hown (hts _ kl_X10_39) dX10_isKept_99 ?_
                        refine W.lcmp hx hb dX10_isKept_102 ?_
                        refine lv_topi (fun z33 _ => ?_)
                        refine lv_if_eq (tgt := 162) hx hb dX10_isKept_103 (by decide) (fun c34 => ?_) (fun c34 => ?_)
                        · have dc34 : z33.toInt = 0 := (fa_eq _ _).mp c34; have lbc34_0 := i_lo z33; have ubc34_0 := i_hi z33
                          refine lv_iconst (v := 1) hx hb dX10_isKept_162 (by decide) ?_
                          refine lv_goto (tgt := 167) hx hb dX10_isKept_163 (by decide) ?_
                          have l_l35 : (1 : Int32).toInt = 1 := rfl
                          rw [← hQm]
                          exact k_zret hC hr hlk hK hP hD hS () [] rfl (by decide) rfl (show 0 ≤ (1 : Int32).toInt ∧ (1 : Int32).toInt ≤ 1 from by omega) (Nat.le_of_ble_eq_true rfl) (Nat.le_of_ble_eq_true rfl) dX10_isKept_167
                        · have dc34 : z33.toInt ≠ 0 := fa_ne c34; have lbc34_0 := i_lo z33; have ubc34_0 := i_hi z33
                          refine lv_lload_n hx hb dX10_isKept_106 rfl (lv_at hl 1 rfl) ?_
                          refine lv_ldc2 (v := 2003399784) hx hb hown (hts _ kl_X10_41) dX10_isKept_107 ?_
                          refine W.lcmp hx hb dX10_isKept_110 ?_
                          refine lv_topi (fun z36 _ => ?_)
                          refine lv_if_eq (tgt := 162) hx hb dX10_isKept_111 (by decide) (fun c37 => ?_) (fun c37 => ?_)
                          · have dc37 : z36.toInt = 0 := (fa_eq _ _).mp c37; have lbc37_0 := i_lo z36; have ubc37_0 := i_hi z36
                            refine lv_iconst (v := 1) hx hb dX10_isKept_162 (by decide) ?_
                            refine lv_goto (tgt := 167) hx hb dX10_isKept_163 (by decide) ?_
                            have l_l38 : (1 : Int32).toInt = 1 := rfl
                            rw [← hQm]
                            exact k_zret hC hr hlk hK hP hD hS () [] rfl (by decide) rfl (show 0 ≤ (1 : Int32).toInt ∧ (1 : Int32).toInt ≤ 1 from by omega) (Nat.le_of_ble_eq_true rfl) (Nat.le_of_ble_eq_true rfl) dX10_isKept_167
                          · have dc37 : z36.toInt ≠ 0 := fa_ne c37; have lbc37_0 := i_lo z36; have ubc37_0 := i_hi z36
                            refine lv_lload_n hx hb dX10_isKept_114 rfl (lv_at hl 1 rfl) ?_
                            refine lv_ldc2 (v := 25209) hx hb hown (hts _ kl_X10_43) dX10_isKept_115 ?_
                            refine W.lcmp hx hb dX10_isKept_118 ?_
                            refine lv_topi (fun z39 _ => ?_)
                            refine lv_if_eq (tgt := 162) hx hb dX10_isKept_119 (by decide) (fun c40 => ?_) (fun c40 => ?_)
                            · have dc40 : z39.toInt = 0 := (fa_eq _ _).mp c40; have lbc40_0 := i_lo z39; have ubc40_0 := i_hi z39
                              refine lv_iconst (v := 1) hx hb dX10_isKept_162 (by decide) ?_
                              refine lv_goto (tgt := 167) hx hb dX10_isKept_163 (by decide) ?_
                              have l_l41 : (1 : Int32).toInt = 1 := rfl
                              rw [← hQm]
                              exact k_zret hC hr hlk hK hP hD hS () [] rfl (by decide) rfl (show 0 ≤ (1 : Int32).toInt ∧ (1 : Int32).toInt ≤ 1 from by omega) (Nat.le_of_ble_eq_true rfl) (Nat.le_of_ble_eq_true rfl) dX10_isKept_167
                            · have dc40 : z39.toInt ≠ 0 := fa_ne c40; have lbc40_0 := i_lo z39; have ubc40_0 := i_hi z39
                              refine lv_lload_n hx hb dX10_isKept_122 rfl (lv_at hl 1 rfl) ?_
                              refine lv_ldc2 (v := 1818584692) hx hb hown (hts _ kl_X10_45) dX10_isKept_123 ?_
                              refine W.lcmp hx hb dX10_isKept_126 ?_
                              refine lv_topi (fun z42 _ => ?_)
                              refine lv_if_eq (tgt := 162) hx hb dX10_isKept_127 (by decide) (fun c43 => ?_) (fun c43 => ?_)
                              · have dc43 : z42.toInt = 0 := (fa_eq _ _).mp c43; have lbc43_0 := i_lo z42; have ubc43_0 := i_hi z42
                                refine lv_iconst (v := 1) hx hb dX10_isKept_162 (by decide) ?_
                                refine lv_goto (tgt := 167) hx hb dX10_isKept_163 (by decide) ?_
                                have l_l44 : (1 : Int32).toInt = 1 := rfl
                                rw [← hQm]
                                exact k_zret hC hr hlk hK hP hD hS () [] rfl (by decide) rfl (show 0 ≤ (1 : Int32).toInt ∧ (1 : Int32).toInt ≤ 1 from by omega) (Nat.le_of_ble_eq_true rfl) (Nat.le_of_ble_eq_true rfl) dX10_isKept_167
                              · have dc43 : z42.toInt ≠ 0 := fa_ne c43; have lbc43_0 := i_lo z42; have ubc43_0 := i_hi z42
                                refine lv_lload_n hx hb dX10_isKept_130 rfl (lv_at hl 1 rfl) ?_
                                refine lv_ldc2 (v := 491394656372) hx hb hown (hts _ kl_X10_47) dX10_isKept_131 ?_
                                refine W.lcmp hx hb dX10_isKept_134 ?_
                                refine lv_topi (fun z45 _ => ?_)
                                refine lv_if_eq (tgt := 162) hx hb dX10_isKept_135 (by decide) (fun c46 => ?_) (fun c46 => ?_)
                                · have dc46 : z45.toInt = 0 := (fa_eq _ _).mp c46; have lbc46_0 := i_lo z45; have ubc46_0 := i_hi z45
                                  refine lv_iconst (v := 1) hx hb dX10_isKept_162 (by decide) ?_
                                  refine lv_goto (tgt := 167) hx hb dX10_isKept_163 (by decide) ?_
                                  have l_l47 : (1 : Int32).toInt = 1 := rfl
                                  rw [← hQm]
                                  exact k_zret hC hr hlk hK hP hD hS () [] rfl (by decide) rfl (show 0 ≤ (1 : Int32).toInt ∧ (1 : Int32).toInt ≤ 1 from by omega) (Nat.le_of_ble_eq_true rfl) (Nat.le_of_ble_eq_true rfl) dX10_isKept_167
                                · have dc46 : z45.toInt ≠ 0 := fa_ne c46; have lbc46_0 := i_lo z45; have ubc46_0 := i_hi z45
                                  refine lv_lload_n hx hb dX10_isKept_138 rfl (lv_at hl 1 rfl) ?_
                                  refine lv_ldc2 (v := 1702258030) hx hb hown (hts _ kl_X10_49) dX10_isKept_139 ?_
                                  refine W.lcmp hx hb dX10_isKept_142 ?_
                                  refine lv_topi (fun z48 _ => ?_)
                                  refine lv_if_eq (tgt := 162) hx hb dX10_isKept_143 (by decide) (fun c49 => ?_) (fun c49 => ?_)
                                  · have dc49 : z48.toInt = 0 := (fa_eq _ _).mp c49; have lbc49_0 := i_lo z48; have ubc49_0 := i_hi z48
                                    refine lv_iconst (v := 1) hx hb dX10_isKept_162 (by decide) ?_
                                    refine lv_goto (tgt := 167) hx hb dX10_isKept_163 (by decide) ?_
                                    have l_l50 : (1 : Int32).toInt = 1 := rfl
                                    rw [← hQm]
                                    exact k_zret hC hr hlk hK hP hD hS () [] rfl (by decide) rfl (show 0 ≤ (1 : Int32).toInt ∧ (1 : Int32).toInt ≤ 1 from by omega) (Nat.le_of_ble_eq_true rfl) (Nat.le_of_ble_eq_true rfl) dX10_isKept_167
                                  · have dc49 : z48.toInt ≠ 0 := fa_ne c49; have lbc49_0 := i_lo z48; have ubc49_0 := i_hi z48
                                    refine lv_lload_n hx hb dX10_isKept_146 rfl (lv_at hl 1 rfl) ?_
                                    refine lv_ldc2 (v := 1935764581) hx hb hown (hts _ kl_X10_51) dX10_isKept_147 ?_
                                    refine W.lcmp hx hb dX10_isKept_150 ?_
                                    refine lv_topi (fun z51 _ => ?_)
                                    refine lv_if_eq (tgt := 162) hx hb dX10_isKept_151 (by decide) (fun c52 => ?_) (fun c52 => ?_)
                                    · have dc52 : z51.toInt = 0 := (fa_eq _ _).mp c52; have lbc52_0 := i_lo z51; have ubc52_0 := i_hi z51
                                      refine lv_iconst (v := 1) hx hb dX10_isKept_162 (by decide) ?_
                                      refine lv_goto (tgt := 167) hx hb dX10_isKept_163 (by decide) ?_
                                      have l_l53 : (1 : Int32).toInt = 1 := rfl
                                      rw [← hQm]
                                      exact k_zret hC hr hlk hK hP hD hS () [] rfl (by decide) rfl (show 0 ≤ (1 : Int32).toInt ∧ (1 : Int32).toInt ≤ 1 from by omega) (Nat.le_of_ble_eq_true rfl) (Nat.le_of_ble_eq_true rfl) dX10_isKept_167
                                    · have dc52 : z51.toInt ≠ 0 := fa_ne c52; have lbc52_0 := i_lo z51; have ubc52_0 := i_hi z51
                                      refine lv_lload_n hx hb dX10_isKept_154 rfl (lv_at hl 1 rfl) ?_
                                      refine lv_ldc2 (v := 482955846501) hx hb hown (hts _ kl_X10_53) dX10_isKept_155 ?_
                                      refine W.lcmp hx hb dX10_isKept_158 ?_
                                      refine lv_topi (fun z54 _ => ?_)
                                      refine lv_if_ne (tgt := 166) hx hb dX10_isKept_159 (by decide) (fun c55 => ?_) (fun c55 => ?_)
                                      · have dc55 : z54.toInt ≠ 0 := fa_ne c55; have lbc55_0 := i_lo z54; have ubc55_0 := i_hi z54
                                        refine lv_iconst (v := 0) hx hb dX10_isKept_166 (by decide) ?_
                                        have l_l56 : (0 : Int32).toInt = 0 := rfl
                                        rw [← hQm]
                                        exact k_zret hC hr hlk hK hP hD hS () [] rfl (by decide) rfl (show 0 ≤ (0 : Int32).toInt ∧ (0 : Int32).toInt ≤ 1 from by omega) (Nat.le_of_ble_eq_true rfl) (Nat.le_of_ble_eq_true rfl) dX10_isKept_167
                                      · have dc55 : z54.toInt = 0 := (fa_eq _ _).mp c55; have lbc55_0 := i_lo z54; have ubc55_0 := i_hi z54
                                        refine lv_iconst (v := 1) hx hb dX10_isKept_162 (by decide) ?_
                                        refine lv_goto (tgt := 167) hx hb dX10_isKept_163 (by decide) ?_
                                        have l_l57 : (1 : Int32).toInt = 1 := rfl
                                        rw [← hQm]
                                        exact k_zret hC hr hlk hK hP hD hS () [] rfl (by decide) rfl (show 0 ≤ (1 : Int32).toInt ∧ (1 : Int32).toInt ≤ 1 from by omega) (Nat.le_of_ble_eq_true rfl) (Nat.le_of_ble_eq_true rfl) dX10_isKept_167
                    · have dc29 : z28.toInt = 0 := (fa_eq _ _).mp c29; have lbc29_0 := i_lo z28; have ubc29_0 := i_hi z28
                      refine lv_iconst (v := 1) hx hb dX10_isKept_80 (by decide) ?_
                      refine lv_goto (tgt := 85) hx hb dX10_isKept_81 (by decide) ?_
                      refine lv_istore_n (lv' := [(2, .int 1), (0, .long b0)]) hx hb dX10_isKept_85 rfl hl (by decide) rfl (fun ls hl => ?_)
                      refine lv_iload_n hx hb dX10_isKept_86 rfl (lv_at hl 0 rfl) ?_
                      refine lv_if_ne (tgt := 162) hx hb dX10_isKept_87 (by decide) (fun _ => ?_) (fun c_ => absurd c_ (by decide +kernel))
                      refine lv_iconst (v := 1) hx hb dX10_isKept_162 (by decide) ?_
                      refine lv_goto (tgt := 167) hx hb dX10_isKept_163 (by decide) ?_
                      have l_l58 : (1 : Int32).toInt = 1 := rfl
                      rw [← hQm]
                      exact k_zret hC hr hlk hK hP hD hS () [] rfl (by decide) rfl (show 0 ≤ (1 : Int32).toInt ∧ (1 : Int32).toInt ≤ 1 from by omega) (Nat.le_of_ble_eq_true rfl) (Nat.le_of_ble_eq_true rfl) dX10_isKept_167
theorem dX10_goOn_0 : decode cX10_goOn 0 = .ok (.aload_n 0, 1) := by decide +kernel
theorem dX10_goOn_1 : decode cX10_goOn 1 = .ok (.aload_n 0, 1) := by decide +kernel
theorem dX10_goOn_2 : decode cX10_goOn 2 = .ok (.getfield 55, 3) := by decide +kernel
set_option maxRecDepth 100000 in
theorem wf_X10_55 : Cond.fieldLink RX10 55 "StoneTrustModel" "end" "I" ∈ gw := gm (List.mem_of_getElem? (i := 1262) (by decide +kernel)) rfl
theorem dX10_goOn_5 : decode cX10_goOn 5 = .ok (.putfield 58, 3) := by decide +kernel
set_option maxRecDepth 100000 in
theorem wf_X10_58 : Cond.fieldLink RX10 58 "StoneTrustModel" "at" "I" ∈ gw := gm (List.mem_of_getElem? (i := 1261) (by decide +kernel)) rfl
theorem dX10_goOn_8 : decode cX10_goOn 8 = .ok (.aload_n 0, 1) := by decide +kernel
theorem dX10_goOn_9 : decode cX10_goOn 9 = .ok (.getfield 58, 3) := by decide +kernel
theorem dX10_goOn_12 : decode cX10_goOn 12 = .ok (.aload_n 0, 1) := by decide +kernel
theorem dX10_goOn_13 : decode cX10_goOn 13 = .ok (.getfield 1, 3) := by decide +kernel
theorem dX10_goOn_16 : decode cX10_goOn 16 = .ok (.if_icmp .ge 42, 3) := by decide +kernel
theorem dX10_goOn_58 : decode cX10_goOn 58 = .ok (.aload_n 0, 1) := by decide +kernel
theorem dX10_goOn_59 : decode cX10_goOn 59 = .ok (.aload_n 0, 1) := by decide +kernel
theorem dX10_goOn_60 : decode cX10_goOn 60 = .ok (.getfield 58, 3) := by decide +kernel
theorem dX10_goOn_63 : decode cX10_goOn 63 = .ok (.invokevirtual 61, 3) := by decide +kernel
set_option maxRecDepth 100000 in
theorem wm_X10_61 : Cond.methodLink RX10 61 yX10_sign ∈ gw := gm (List.mem_of_getElem? (i := 1472) (by decide +kernel)) rfl
set_option maxRecDepth 100000 in
theorem mi_X10_sign : MI yX10_sign cX10_sign 2 (some .int) 1 := ⟨gm (List.mem_of_getElem? (i := 1475) rfl) rfl, gm (List.mem_of_getElem? (i := 124) (by decide +kernel)) rfl, by decide, by decide, by decide +kernel⟩
set_option maxRecDepth 100000 in
theorem in_X10_sign : Cond.instanceMethod yX10_sign ∈ gw := gm (List.mem_of_getElem? (i := 1474) (by decide +kernel)) rfl
set_option maxRecDepth 100000 in
theorem se_X10_sign : Cond.selects yX10_sign.cls yX10_sign yX10_sign ∈ gw := gm (List.mem_of_getElem? (i := 55) (by decide +kernel)) rfl
theorem dX10_goOn_66 : decode cX10_goOn 66 = .ok (.istore_n 1, 1) := by decide +kernel
theorem dX10_goOn_67 : decode cX10_goOn 67 = .ok (.aload_n 0, 1) := by decide +kernel
theorem dX10_goOn_68 : decode cX10_goOn 68 = .ok (.aload_n 0, 1) := by decide +kernel
theorem dX10_goOn_69 : decode cX10_goOn 69 = .ok (.getfield 58, 3) := by decide +kernel
theorem dX10_goOn_72 : decode cX10_goOn 72 = .ok (.iconst 1, 1) := by decide +kernel
theorem dX10_goOn_73 : decode cX10_goOn 73 = .ok (.iadd, 1) := by decide +kernel
theorem dX10_goOn_74 : decode cX10_goOn 74 = .ok (.putfield 55, 3) := by decide +kernel
theorem dX10_goOn_77 : decode cX10_goOn 77 = .ok (.aload_n 0, 1) := by decide +kernel
theorem dX10_goOn_78 : decode cX10_goOn 78 = .ok (.getfield 58, 3) := by decide +kernel
theorem dX10_goOn_81 : decode cX10_goOn 81 = .ok (.aload_n 0, 1) := by decide +kernel
theorem dX10_goOn_82 : decode cX10_goOn 82 = .ok (.getfield 1, 3) := by decide +kernel
theorem dX10_goOn_85 : decode cX10_goOn 85 = .ok (.if_icmp .lt 27, 3) := by decide +kernel
theorem dX10_goOn_112 : decode cX10_goOn 112 = .ok (.iload_n 1, 1) := by decide +kernel
theorem dX10_goOn_113 : decode cX10_goOn 113 = .ok (.invokestatic 68, 3) := by decide +kernel
set_option maxRecDepth 100000 in
theorem wm_X10_68 : Cond.methodLink RX10 68 yX10_isLetter ∈ gw := gm (List.mem_of_getElem? (i := 1476) (by decide +kernel)) rfl
set_option maxRecDepth 100000 in
theorem mi_X10_isLetter : MI yX10_isLetter cX10_isLetter 1 (some .boolean) 1 := ⟨gm (List.mem_of_getElem? (i := 1478) rfl) rfl, gm (List.mem_of_getElem? (i := 124) (by decide +kernel)) rfl, by decide, by decide, by decide +kernel⟩
set_option maxRecDepth 100000 in
theorem st_X10_isLetter : Cond.static yX10_isLetter ∈ gw := gm (List.mem_of_getElem? (i := 1477) (by decide +kernel)) rfl
theorem dX10_goOn_116 : decode cX10_goOn 116 = .ok (.ifCond .eq 123, 3) := by decide +kernel
theorem dX10_goOn_239 : decode cX10_goOn 239 = .ok (.iload_n 1, 1) := by decide +kernel
theorem dX10_goOn_240 : decode cX10_goOn 240 = .ok (.invokestatic 80, 3) := by decide +kernel
set_option maxRecDepth 100000 in
theorem wm_X10_80 : Cond.methodLink RX10 80 yX10_isDigit ∈ gw := gm (List.mem_of_getElem? (i := 1501) (by decide +kernel)) rfl
set_option maxRecDepth 100000 in
theorem mi_X10_isDigit : MI yX10_isDigit cX10_isDigit 1 (some .boolean) 1 := ⟨gm (List.mem_of_getElem? (i := 1503) rfl) rfl, gm (List.mem_of_getElem? (i := 124) (by decide +kernel)) rfl, by decide, by decide, by decide +kernel⟩
set_option maxRecDepth 100000 in
theorem st_X10_isDigit : Cond.static yX10_isDigit ∈ gw := gm (List.mem_of_getElem? (i := 1502) (by decide +kernel)) rfl
theorem dX10_goOn_243 : decode cX10_goOn 243 = .ok (.ifCond .eq 118, 3) := by decide +kernel
theorem dX10_goOn_361 : decode cX10_goOn 361 = .ok (.aload_n 0, 1) := by decide +kernel
theorem dX10_goOn_362 : decode cX10_goOn 362 = .ok (.iload_n 1, 1) := by decide +kernel
theorem dX10_goOn_363 : decode cX10_goOn 363 = .ok (.bipush 59, 2) := by decide +kernel
theorem dX10_goOn_365 : decode cX10_goOn 365 = .ok (.if_icmp .ne 7, 3) := by decide +kernel
theorem dX10_goOn_372 : decode cX10_goOn 372 = .ok (.iconst 1, 1) := by decide +kernel
theorem dX10_goOn_373 : decode cX10_goOn 373 = .ok (.putfield 65, 3) := by decide +kernel
set_option maxRecDepth 100000 in
theorem wf_X10_65 : Cond.fieldLink RX10 65 "StoneTrustModel" "token" "I" ∈ gw := gm (List.mem_of_getElem? (i := 1263) (by decide +kernel)) rfl
theorem dX10_goOn_376 : decode cX10_goOn 376 = .ok (.return_, 1) := by decide +kernel
theorem dX10_goOn_368 : decode cX10_goOn 368 = .ok (.iconst 5, 1) := by decide +kernel
theorem dX10_goOn_369 : decode cX10_goOn 369 = .ok (.goto 4, 3) := by decide +kernel
theorem dX10_goOn_246 : decode cX10_goOn 246 = .ok (.aload_n 0, 1) := by decide +kernel
theorem dX10_goOn_247 : decode cX10_goOn 247 = .ok (.iconst 0, 1) := by decide +kernel
theorem dX10_goOn_248 : decode cX10_goOn 248 = .ok (.putfield 83, 3) := by decide +kernel
set_option maxRecDepth 100000 in
theorem wf_X10_83 : Cond.fieldLink RX10 83 "StoneTrustModel" "number" "I" ∈ gw := gm (List.mem_of_getElem? (i := 1264) (by decide +kernel)) rfl
theorem dX10_goOn_251 : decode cX10_goOn 251 = .ok (.aload_n 0, 1) := by decide +kernel
theorem dX10_goOn_252 : decode cX10_goOn 252 = .ok (.aload_n 0, 1) := by decide +kernel
theorem dX10_goOn_253 : decode cX10_goOn 253 = .ok (.getfield 58, 3) := by decide +kernel
theorem dX10_goOn_256 : decode cX10_goOn 256 = .ok (.putfield 55, 3) := by decide +kernel
theorem dX10_goOn_259 : decode cX10_goOn 259 = .ok (.aload_n 0, 1) := by decide +kernel
theorem dX10_goOn_260 : decode cX10_goOn 260 = .ok (.aload_n 0, 1) := by decide +kernel
theorem dX10_goOn_261 : decode cX10_goOn 261 = .ok (.getfield 55, 3) := by decide +kernel
theorem dX10_goOn_264 : decode cX10_goOn 264 = .ok (.invokevirtual 61, 3) := by decide +kernel
theorem dX10_goOn_267 : decode cX10_goOn 267 = .ok (.invokestatic 80, 3) := by decide +kernel
theorem dX10_goOn_270 : decode cX10_goOn 270 = .ok (.ifCond .eq 52, 3) := by decide +kernel
theorem dX10_goOn_322 : decode cX10_goOn 322 = .ok (.aload_n 0, 1) := by decide +kernel
theorem dX10_goOn_323 : decode cX10_goOn 323 = .ok (.aload_n 0, 1) := by decide +kernel
theorem dX10_goOn_324 : decode cX10_goOn 324 = .ok (.getfield 55, 3) := by decide +kernel
theorem dX10_goOn_327 : decode cX10_goOn 327 = .ok (.aload_n 0, 1) := by decide +kernel
theorem dX10_goOn_328 : decode cX10_goOn 328 = .ok (.getfield 58, 3) := by decide +kernel
theorem dX10_goOn_331 : decode cX10_goOn 331 = .ok (.isub, 1) := by decide +kernel
theorem dX10_goOn_332 : decode cX10_goOn 332 = .ok (.iconst 4, 1) := by decide +kernel
theorem dX10_goOn_333 : decode cX10_goOn 333 = .ok (.if_icmp .gt 17, 3) := by decide +kernel
theorem dX10_goOn_350 : decode cX10_goOn 350 = .ok (.iconst 1, 1) := by decide +kernel
theorem dX10_goOn_351 : decode cX10_goOn 351 = .ok (.goto 4, 3) := by decide +kernel
theorem dX10_goOn_355 : decode cX10_goOn 355 = .ok (.putfield 65, 3) := by decide +kernel
theorem dX10_goOn_358 : decode cX10_goOn 358 = .ok (.goto 18, 3) := by decide +kernel
theorem dX10_goOn_336 : decode cX10_goOn 336 = .ok (.aload_n 0, 1) := by decide +kernel
theorem dX10_goOn_337 : decode cX10_goOn 337 = .ok (.aload_n 0, 1) := by decide +kernel
theorem dX10_goOn_338 : decode cX10_goOn 338 = .ok (.getfield 55, 3) := by decide +kernel
theorem dX10_goOn_341 : decode cX10_goOn 341 = .ok (.invokevirtual 61, 3) := by decide +kernel
theorem dX10_goOn_344 : decode cX10_goOn 344 = .ok (.invokestatic 68, 3) := by decide +kernel
theorem dX10_goOn_347 : decode cX10_goOn 347 = .ok (.ifCond .eq 7, 3) := by decide +kernel
theorem dX10_goOn_354 : decode cX10_goOn 354 = .ok (.iconst 4, 1) := by decide +kernel
theorem dX10_goOn_273 : decode cX10_goOn 273 = .ok (.aload_n 0, 1) := by decide +kernel
theorem dX10_goOn_274 : decode cX10_goOn 274 = .ok (.getfield 55, 3) := by decide +kernel
theorem dX10_goOn_277 : decode cX10_goOn 277 = .ok (.aload_n 0, 1) := by decide +kernel
theorem dX10_goOn_278 : decode cX10_goOn 278 = .ok (.getfield 58, 3) := by decide +kernel
theorem dX10_goOn_281 : decode cX10_goOn 281 = .ok (.isub, 1) := by decide +kernel
theorem dX10_goOn_282 : decode cX10_goOn 282 = .ok (.iconst 4, 1) := by decide +kernel
theorem dX10_goOn_283 : decode cX10_goOn 283 = .ok (.if_icmp .ge 26, 3) := by decide +kernel
theorem dX10_goOn_309 : decode cX10_goOn 309 = .ok (.aload_n 0, 1) := by decide +kernel
theorem dX10_goOn_310 : decode cX10_goOn 310 = .ok (.dup, 1) := by decide +kernel
theorem dX10_goOn_311 : decode cX10_goOn 311 = .ok (.getfield 55, 3) := by decide +kernel
theorem dX10_goOn_314 : decode cX10_goOn 314 = .ok (.iconst 1, 1) := by decide +kernel
theorem dX10_goOn_315 : decode cX10_goOn 315 = .ok (.iadd, 1) := by decide +kernel
theorem dX10_goOn_316 : decode cX10_goOn 316 = .ok (.putfield 55, 3) := by decide +kernel
theorem dX10_goOn_319 : decode cX10_goOn 319 = .ok (.goto (-60), 3) := by decide +kernel
theorem dX10_goOn_286 : decode cX10_goOn 286 = .ok (.aload_n 0, 1) := by decide +kernel
theorem dX10_goOn_287 : decode cX10_goOn 287 = .ok (.bipush 10, 2) := by decide +kernel
theorem dX10_goOn_289 : decode cX10_goOn 289 = .ok (.aload_n 0, 1) := by decide +kernel
theorem dX10_goOn_290 : decode cX10_goOn 290 = .ok (.getfield 83, 3) := by decide +kernel
theorem dX10_goOn_293 : decode cX10_goOn 293 = .ok (.imul, 1) := by decide +kernel
theorem dX10_goOn_294 : decode cX10_goOn 294 = .ok (.aload_n 0, 1) := by decide +kernel
theorem dX10_goOn_295 : decode cX10_goOn 295 = .ok (.aload_n 0, 1) := by decide +kernel
theorem dX10_goOn_296 : decode cX10_goOn 296 = .ok (.getfield 55, 3) := by decide +kernel
theorem dX10_goOn_299 : decode cX10_goOn 299 = .ok (.invokevirtual 61, 3) := by decide +kernel
theorem dX10_goOn_302 : decode cX10_goOn 302 = .ok (.iadd, 1) := by decide +kernel
theorem dX10_goOn_303 : decode cX10_goOn 303 = .ok (.bipush 48, 2) := by decide +kernel
theorem dX10_goOn_305 : decode cX10_goOn 305 = .ok (.isub, 1) := by decide +kernel
theorem dX10_goOn_306 : decode cX10_goOn 306 = .ok (.putfield 83, 3) := by decide +kernel
theorem dX10_goOn_119 : decode cX10_goOn 119 = .ok (.aload_n 0, 1) := by decide +kernel
theorem dX10_goOn_120 : decode cX10_goOn 120 = .ok (.aload_n 0, 1) := by decide +kernel
theorem dX10_goOn_121 : decode cX10_goOn 121 = .ok (.getfield 55, 3) := by decide +kernel
theorem dX10_goOn_124 : decode cX10_goOn 124 = .ok (.invokevirtual 61, 3) := by decide +kernel
theorem dX10_goOn_127 : decode cX10_goOn 127 = .ok (.invokestatic 68, 3) := by decide +kernel
theorem dX10_goOn_130 : decode cX10_goOn 130 = .ok (.ifCond .eq 16, 3) := by decide +kernel
theorem dX10_goOn_146 : decode cX10_goOn 146 = .ok (.aload_n 0, 1) := by decide +kernel
theorem dX10_goOn_147 : decode cX10_goOn 147 = .ok (.lconst 0, 1) := by decide +kernel
theorem dX10_goOn_148 : decode cX10_goOn 148 = .ok (.putfield 72, 3) := by decide +kernel
set_option maxRecDepth 100000 in
theorem wf_X10_72 : Cond.fieldLink RX10 72 "StoneTrustModel" "name" "J" ∈ gw := gm (List.mem_of_getElem? (i := 1265) (by decide +kernel)) rfl
theorem dX10_goOn_151 : decode cX10_goOn 151 = .ok (.aload_n 0, 1) := by decide +kernel
theorem dX10_goOn_152 : decode cX10_goOn 152 = .ok (.getfield 58, 3) := by decide +kernel
theorem dX10_goOn_155 : decode cX10_goOn 155 = .ok (.istore_n 2, 1) := by decide +kernel
theorem dX10_goOn_156 : decode cX10_goOn 156 = .ok (.iload_n 2, 1) := by decide +kernel
theorem dX10_goOn_157 : decode cX10_goOn 157 = .ok (.aload_n 0, 1) := by decide +kernel
theorem dX10_goOn_158 : decode cX10_goOn 158 = .ok (.getfield 55, 3) := by decide +kernel
theorem dX10_goOn_161 : decode cX10_goOn 161 = .ok (.if_icmp .ge 38, 3) := by decide +kernel
theorem dX10_goOn_199 : decode cX10_goOn 199 = .ok (.aload_n 0, 1) := by decide +kernel
theorem dX10_goOn_200 : decode cX10_goOn 200 = .ok (.aload_n 0, 1) := by decide +kernel
theorem dX10_goOn_201 : decode cX10_goOn 201 = .ok (.getfield 55, 3) := by decide +kernel
theorem dX10_goOn_204 : decode cX10_goOn 204 = .ok (.aload_n 0, 1) := by decide +kernel
theorem dX10_goOn_205 : decode cX10_goOn 205 = .ok (.getfield 58, 3) := by decide +kernel
theorem dX10_goOn_208 : decode cX10_goOn 208 = .ok (.isub, 1) := by decide +kernel
theorem dX10_goOn_209 : decode cX10_goOn 209 = .ok (.bipush 8, 2) := by decide +kernel
theorem dX10_goOn_211 : decode cX10_goOn 211 = .ok (.if_icmp .le 7, 3) := by decide +kernel
theorem dX10_goOn_218 : decode cX10_goOn 218 = .ok (.aload_n 0, 1) := by decide +kernel
theorem dX10_goOn_219 : decode cX10_goOn 219 = .ok (.getfield 72, 3) := by decide +kernel
theorem dX10_goOn_222 : decode cX10_goOn 222 = .ok (.invokestatic 76, 3) := by decide +kernel
set_option maxRecDepth 100000 in
theorem wm_X10_76 : Cond.methodLink RX10 76 yX10_isKept ∈ gw := gm (List.mem_of_getElem? (i := 1479) (by decide +kernel)) rfl
set_option maxRecDepth 100000 in
theorem mi_X10_isKept : MI yX10_isKept cX10_isKept 3 (some .boolean) 1 := ⟨gm (List.mem_of_getElem? (i := 1481) rfl) rfl, gm (List.mem_of_getElem? (i := 124) (by decide +kernel)) rfl, by decide, by decide, by decide +kernel⟩
set_option maxRecDepth 100000 in
theorem st_X10_isKept : Cond.static yX10_isKept ∈ gw := gm (List.mem_of_getElem? (i := 1480) (by decide +kernel)) rfl
theorem dX10_goOn_225 : decode cX10_goOn 225 = .ok (.ifCond .eq 7, 3) := by decide +kernel
theorem dX10_goOn_232 : decode cX10_goOn 232 = .ok (.iconst 2, 1) := by decide +kernel
theorem dX10_goOn_233 : decode cX10_goOn 233 = .ok (.putfield 65, 3) := by decide +kernel
theorem dX10_goOn_236 : decode cX10_goOn 236 = .ok (.goto 140, 3) := by decide +kernel
theorem dX10_goOn_228 : decode cX10_goOn 228 = .ok (.iconst 3, 1) := by decide +kernel
theorem dX10_goOn_229 : decode cX10_goOn 229 = .ok (.goto 4, 3) := by decide +kernel
theorem dX10_goOn_214 : decode cX10_goOn 214 = .ok (.iconst 1, 1) := by decide +kernel
theorem dX10_goOn_215 : decode cX10_goOn 215 = .ok (.goto 18, 3) := by decide +kernel
theorem dX10_goOn_164 : decode cX10_goOn 164 = .ok (.iload_n 2, 1) := by decide +kernel
theorem dX10_goOn_165 : decode cX10_goOn 165 = .ok (.aload_n 0, 1) := by decide +kernel
theorem dX10_goOn_166 : decode cX10_goOn 166 = .ok (.getfield 58, 3) := by decide +kernel
theorem dX10_goOn_169 : decode cX10_goOn 169 = .ok (.bipush 8, 2) := by decide +kernel
theorem dX10_goOn_171 : decode cX10_goOn 171 = .ok (.iadd, 1) := by decide +kernel
theorem dX10_goOn_172 : decode cX10_goOn 172 = .ok (.if_icmp .ge 27, 3) := by decide +kernel
theorem dX10_goOn_175 : decode cX10_goOn 175 = .ok (.aload_n 0, 1) := by decide +kernel
theorem dX10_goOn_176 : decode cX10_goOn 176 = .ok (.aload_n 0, 1) := by decide +kernel
theorem dX10_goOn_177 : decode cX10_goOn 177 = .ok (.getfield 72, 3) := by decide +kernel
theorem dX10_goOn_180 : decode cX10_goOn 180 = .ok (.bipush 8, 2) := by decide +kernel
theorem dX10_goOn_182 : decode cX10_goOn 182 = .ok (.lshl, 1) := by decide +kernel
theorem dX10_goOn_183 : decode cX10_goOn 183 = .ok (.aload_n 0, 1) := by decide +kernel
theorem dX10_goOn_184 : decode cX10_goOn 184 = .ok (.iload_n 2, 1) := by decide +kernel
theorem dX10_goOn_185 : decode cX10_goOn 185 = .ok (.invokevirtual 61, 3) := by decide +kernel
theorem dX10_goOn_188 : decode cX10_goOn 188 = .ok (.i2l, 1) := by decide +kernel
theorem dX10_goOn_189 : decode cX10_goOn 189 = .ok (.lor, 1) := by decide +kernel
theorem dX10_goOn_190 : decode cX10_goOn 190 = .ok (.putfield 72, 3) := by decide +kernel
theorem dX10_goOn_193 : decode cX10_goOn 193 = .ok (.iinc 2 1, 3) := by decide +kernel
theorem dX10_goOn_196 : decode cX10_goOn 196 = .ok (.goto (-40), 3) := by decide +kernel
theorem dX10_goOn_133 : decode cX10_goOn 133 = .ok (.aload_n 0, 1) := by decide +kernel
theorem dX10_goOn_134 : decode cX10_goOn 134 = .ok (.dup, 1) := by decide +kernel
theorem dX10_goOn_135 : decode cX10_goOn 135 = .ok (.getfield 55, 3) := by decide +kernel
theorem dX10_goOn_138 : decode cX10_goOn 138 = .ok (.iconst 1, 1) := by decide +kernel
theorem dX10_goOn_139 : decode cX10_goOn 139 = .ok (.iadd, 1) := by decide +kernel
theorem dX10_goOn_140 : decode cX10_goOn 140 = .ok (.putfield 55, 3) := by decide +kernel
theorem dX10_goOn_143 : decode cX10_goOn 143 = .ok (.goto (-24), 3) := by decide +kernel
theorem dX10_goOn_88 : decode cX10_goOn 88 = .ok (.aload_n 0, 1) := by decide +kernel
theorem dX10_goOn_89 : decode cX10_goOn 89 = .ok (.iconst 0, 1) := by decide +kernel
theorem dX10_goOn_90 : decode cX10_goOn 90 = .ok (.putfield 65, 3) := by decide +kernel
theorem dX10_goOn_93 : decode cX10_goOn 93 = .ok (.aload_n 0, 1) := by decide +kernel
theorem dX10_goOn_94 : decode cX10_goOn 94 = .ok (.aload_n 0, 1) := by decide +kernel
theorem dX10_goOn_95 : decode cX10_goOn 95 = .ok (.getfield 1, 3) := by decide +kernel
theorem dX10_goOn_98 : decode cX10_goOn 98 = .ok (.putfield 58, 3) := by decide +kernel
theorem dX10_goOn_101 : decode cX10_goOn 101 = .ok (.aload_n 0, 1) := by decide +kernel
theorem dX10_goOn_102 : decode cX10_goOn 102 = .ok (.aload_n 0, 1) := by decide +kernel
theorem dX10_goOn_103 : decode cX10_goOn 103 = .ok (.getfield 1, 3) := by decide +kernel
theorem dX10_goOn_106 : decode cX10_goOn 106 = .ok (.putfield 55, 3) := by decide +kernel
theorem dX10_goOn_109 : decode cX10_goOn 109 = .ok (.goto 267, 3) := by decide +kernel
theorem dX10_goOn_19 : decode cX10_goOn 19 = .ok (.aload_n 0, 1) := by decide +kernel
theorem dX10_goOn_20 : decode cX10_goOn 20 = .ok (.aload_n 0, 1) := by decide +kernel
theorem dX10_goOn_21 : decode cX10_goOn 21 = .ok (.getfield 58, 3) := by decide +kernel
theorem dX10_goOn_24 : decode cX10_goOn 24 = .ok (.invokevirtual 61, 3) := by decide +kernel
theorem dX10_goOn_27 : decode cX10_goOn 27 = .ok (.bipush 32, 2) := by decide +kernel
theorem dX10_goOn_29 : decode cX10_goOn 29 = .ok (.if_icmp .eq 16, 3) := by decide +kernel
theorem dX10_goOn_45 : decode cX10_goOn 45 = .ok (.aload_n 0, 1) := by decide +kernel
theorem dX10_goOn_46 : decode cX10_goOn 46 = .ok (.dup, 1) := by decide +kernel
theorem dX10_goOn_47 : decode cX10_goOn 47 = .ok (.getfield 58, 3) := by decide +kernel
theorem dX10_goOn_50 : decode cX10_goOn 50 = .ok (.iconst 1, 1) := by decide +kernel
theorem dX10_goOn_51 : decode cX10_goOn 51 = .ok (.iadd, 1) := by decide +kernel
theorem dX10_goOn_52 : decode cX10_goOn 52 = .ok (.putfield 58, 3) := by decide +kernel
theorem dX10_goOn_55 : decode cX10_goOn 55 = .ok (.goto (-47), 3) := by decide +kernel
theorem dX10_goOn_32 : decode cX10_goOn 32 = .ok (.aload_n 0, 1) := by decide +kernel
theorem dX10_goOn_33 : decode cX10_goOn 33 = .ok (.aload_n 0, 1) := by decide +kernel
theorem dX10_goOn_34 : decode cX10_goOn 34 = .ok (.getfield 58, 3) := by decide +kernel
theorem dX10_goOn_37 : decode cX10_goOn 37 = .ok (.invokevirtual 61, 3) := by decide +kernel
theorem dX10_goOn_40 : decode cX10_goOn 40 = .ok (.bipush 10, 2) := by decide +kernel
theorem dX10_goOn_42 : decode cX10_goOn 42 = .ok (.if_icmp .ne 16, 3) := by decide +kernel
set_option maxHeartbeats 4000000 in
set_option maxRecDepth 100000 in
theorem c6_X10_goOn (l : Launch) (G : va_G) (cI cJ cB cZ : ClassId) (a0 a1 a2 a3 a4 a5 a6 a7 a8 a9 a10 a11 a12 a13 a14 a15 a16 a17 a18 a19 a20 a21 a22 a23 a24 a25 a26 a27 a28 a29 a30 a31 a32 a33 a34 a35 a36 a37 a38 a39 a40 a41 a42 : Nat) (v_m_2 : Int32) (v_m_3 : Int32) (v_m_4 : Int32) (v_m_5 : Int32) (v_m_6 : Int32) (v_m_7 : Int32) (v_m_8 : Int32) (v_m_9 : Int32) (w_m_10 : Int64) (v_m_44 : Int32) (v_m_45 : Int32) (v_m_46 : Int32) (v_m_47 : Int32) (v_m_49 : Int32) (v_m_53 : Int32) (v_m_54 : Int32) (v_m_55 : Int32) (v_m_56 : Int32) (v_m_57 : Int32) (v_m_58 : Int32) (v_m_59 : Int32) (v_m_60 : Int32) (v_m_62 : Int32) (v_m_67 : Int32) (v_m_68 : Int32) (g_m_text : Nat → Int32) (hv : 0 ≤ v_m_2.toInt ∧ v_m_2.toInt ≤ 1300 ∧ 0 ≤ v_m_3.toInt ∧ v_m_3.toInt ≤ 1300 ∧ 0 ≤ v_m_4.toInt ∧ v_m_4.toInt ≤ 5 ∧ 0 ≤ v_m_6.toInt ∧ v_m_6.toInt ≤ 1300 ∧ 0 ≤ v_m_7.toInt ∧ v_m_7.toInt ≤ 1300 ∧ 0 ≤ v_m_8.toInt ∧ v_m_8.toInt ≤ 5 ∧ 0 ≤ v_m_9.toInt ∧ v_m_9.toInt ≤ 9999 ∧ 0 ≤ v_m_44.toInt ∧ v_m_44.toInt ≤ 30 ∧ 0 ≤ v_m_47.toInt ∧ v_m_47.toInt ≤ 1 ∧ 0 ≤ v_m_49.toInt ∧ v_m_49.toInt ≤ 46 ∧ 0 ≤ v_m_53.toInt ∧ v_m_53.toInt ≤ 300000 ∧ 0 ≤ v_m_55.toInt ∧ v_m_55.toInt ≤ 300109 ∧ v_m_56.toInt ≤ 300000 ∧ 0 ≤ v_m_57.toInt ∧ v_m_57.toInt ≤ 1 ∧ 0 ≤ v_m_60.toInt ∧ v_m_60.toInt ≤ 1 ∧ (v_m_7.toInt ≤ v_m_3.toInt)) (hT_g_m_text : TA (-128) 127 g_m_text) : Con l G (TY cI cJ cB cZ) yX10_goOn cX10_goOn 3 none ({ frames := 1, cells := 0, slots := 0, locals := 22 } : Room) [.ref a0] [(a0, .inr (10, [.ref a1, .ref a2, .int v_m_2, .int v_m_3, .int v_m_4, .int v_m_5, .int v_m_6, .int v_m_7, .int v_m_8, .int v_m_9, .long w_m_10, .ref a3, .ref a4, .ref a5, .ref a6, .ref a7, .ref a8, .ref a9, .ref a10, .ref a11, .ref a12, .ref a13, .ref a14, .ref a15, .ref a16, .ref a17, .ref a18, .ref a19, .ref a20, .ref a21, .ref a22, .ref a23, .ref a24, .ref a25, .ref a26, .ref a27, .ref a28, .ref a29, .ref a30, .ref a31, .int 0, .int 1, .ref a32, .ref a33, .int v_m_44, .int v_m_45, .int v_m_46, .int v_m_47, .ref a34, .int v_m_49, .ref a35, .ref a36, .ref a37, .int v_m_53, .int v_m_54, .int v_m_55, .int v_m_56, .int v_m_57, .int v_m_58, .int v_m_59, .int v_m_60, .ref a38, .int v_m_62, .ref a39, .ref a40, .ref a41, .ref a42, .int v_m_67, .int v_m_68])), (a2, .inl (cB, 1300, .inl g_m_text))] (QV G (TY cI cJ cB cZ) (fun u : Int32 × Int32 × Int32 × Int32 × Int64 => (0 ≤ u.1.toInt ∧ u.1.toInt ≤ 1300 ∧ 0 ≤ u.2.1.toInt ∧ u.2.1.toInt ≤ 1300 ∧ 0 ≤ u.2.2.1.toInt ∧ u.2.2.1.toInt ≤ 5 ∧ 0 ≤ u.2.2.2.1.toInt ∧ u.2.2.2.1.toInt ≤ 9999 ∧ (v_m_7.toInt ≤ u.2.1.toInt) ∧ (u.2.2.1.toInt ≤ 5 * (u.2.1.toInt - v_m_7.toInt)) ∧ (u.2.1.toInt ≤ v_m_3.toInt))) (fun u : Int32 × Int32 × Int32 × Int32 × Int64 => [(a0, .inr (10, [.ref a1, .ref a2, .int v_m_2, .int v_m_3, .int v_m_4, .int v_m_5, .int u.1, .int u.2.1, .int u.2.2.1, .int u.2.2.2.1, .long u.2.2.2.2, .ref a3, .ref a4, .ref a5, .ref a6, .ref a7, .ref a8, .ref a9, .ref a10, .ref a11, .ref a12, .ref a13, .ref a14, .ref a15, .ref a16, .ref a17, .ref a18, .ref a19, .ref a20, .ref a21, .ref a22, .ref a23, .ref a24, .ref a25, .ref a26, .ref a27, .ref a28, .ref a29, .ref a30, .ref a31, .int 0, .int 1, .ref a32, .ref a33, .int v_m_44, .int v_m_45, .int v_m_46, .int v_m_47, .ref a34, .int v_m_49, .ref a35, .ref a36, .ref a37, .int v_m_53, .int v_m_54, .int v_m_55, .int v_m_56, .int v_m_57, .int v_m_58, .int v_m_59, .int v_m_60, .ref a38, .int v_m_62, .ref a39, .ref a40, .ref a41, .ref a42, .int v_m_67, .int v_m_68])), (a2, .inl (cB, 1300, .inl g_m_text))])) := by
  refine k_met (by decide) (Nat.le_of_ble_eq_true rfl) ?_
  intro p e s m below meth c A ls hC hr hlk hnm hN hZ hK hA hP hD hS hl
  have hl : lv_has ls 3 [(0, .ref a0)] := hl
  generalize hQm : MQ below _ _ s _ _ A = Qm
  generalize (List.toArray _ : Array Value) = args at hC hQm ⊢
  obtain ⟨hx, hb, hml, hown, hts⟩ := id hC
  obtain ⟨H, hH⟩ : ∃ q, q = s.heap := ⟨_, rfl⟩
  obtain ⟨locs, hlo⟩ : ∃ q : List Loc, q = [] := ⟨_, rfl⟩
  have hP : va_P G cl [(a0, .inr (10, [.ref a1, .ref a2, .int v_m_2, .int v_m_3, .int v_m_4, .int v_m_5, .int v_m_6, .int v_m_7, .int v_m_8, .int v_m_9, .long w_m_10, .ref a3, .ref a4, .ref a5, .ref a6, .ref a7, .ref a8, .ref a9, .ref a10, .ref a11, .ref a12, .ref a13, .ref a14, .ref a15, .ref a16, .ref a17, .ref a18, .ref a19, .ref a20, .ref a21, .ref a22, .ref a23, .ref a24, .ref a25, .ref a26, .ref a27, .ref a28, .ref a29, .ref a30, .ref a31, .int 0, .int 1, .ref a32, .ref a33, .int v_m_44, .int v_m_45, .int v_m_46, .int v_m_47, .ref a34, .int v_m_49, .ref a35, .ref a36, .ref a37, .int v_m_53, .int v_m_54, .int v_m_55, .int v_m_56, .int v_m_57, .int v_m_58, .int v_m_59, .int v_m_60, .ref a38, .int v_m_62, .ref a39, .ref a40, .ref a41, .ref a42, .int v_m_67, .int v_m_68])), (a2, .inl (cB, 1300, .inl g_m_text))] H := by rw [hH]; exact hP
  have hS : va_S A s.heap H locs := by rw [hH, hlo]; exact hS
  rw [← hlo]
  rw [← hH]
  refine lv_aload_n hx hb dX10_goOn_0 rfl (lv_at hl 0 rfl) ?_
  refine lv_aload_n hx hb dX10_goOn_1 rfl (lv_at hl 0 rfl) ?_
  refine k_get hC hK hP iX10 0 7 wf_X10_55 rfl (by decide) rfl rfl dX10_goOn_2 ?_
  refine k_put hC hK hP hD hS iX10 tyX10_ok nmX10 0 6 wf_X10_58 rfl (by decide) rfl rfl rfl rfl (Nat.le_of_ble_eq_true rfl) dX10_goOn_5 (fun H locs hP hD hS => ?_)
  have hP : va_P G cl [(a0, .inr (10, [.ref a1, .ref a2, .int v_m_2, .int v_m_3, .int v_m_4, .int v_m_5, .int v_m_7, .int v_m_7, .int v_m_8, .int v_m_9, .long w_m_10, .ref a3, .ref a4, .ref a5, .ref a6, .ref a7, .ref a8, .ref a9, .ref a10, .ref a11, .ref a12, .ref a13, .ref a14, .ref a15, .ref a16, .ref a17, .ref a18, .ref a19, .ref a20, .ref a21, .ref a22, .ref a23, .ref a24, .ref a25, .ref a26, .ref a27, .ref a28, .ref a29, .ref a30, .ref a31, .int 0, .int 1, .ref a32, .ref a33, .int v_m_44, .int v_m_45, .int v_m_46, .int v_m_47, .ref a34, .int v_m_49, .ref a35, .ref a36, .ref a37, .int v_m_53, .int v_m_54, .int v_m_55, .int v_m_56, .int v_m_57, .int v_m_58, .int v_m_59, .int v_m_60, .ref a38, .int v_m_62, .ref a39, .ref a40, .ref a41, .ref a42, .int v_m_67, .int v_m_68])), (a2, .inl (cB, 1300, .inl g_m_text))] H := hP
  have hD : va_D A [(a0, .inr (10, [.ref a1, .ref a2, .int v_m_2, .int v_m_3, .int v_m_4, .int v_m_5, .int v_m_7, .int v_m_7, .int v_m_8, .int v_m_9, .long w_m_10, .ref a3, .ref a4, .ref a5, .ref a6, .ref a7, .ref a8, .ref a9, .ref a10, .ref a11, .ref a12, .ref a13, .ref a14, .ref a15, .ref a16, .ref a17, .ref a18, .ref a19, .ref a20, .ref a21, .ref a22, .ref a23, .ref a24, .ref a25, .ref a26, .ref a27, .ref a28, .ref a29, .ref a30, .ref a31, .int 0, .int 1, .ref a32, .ref a33, .int v_m_44, .int v_m_45, .int v_m_46, .int v_m_47, .ref a34, .int v_m_49, .ref a35, .ref a36, .ref a37, .int v_m_53, .int v_m_54, .int v_m_55, .int v_m_56, .int v_m_57, .int v_m_58, .int v_m_59, .int v_m_60, .ref a38, .int v_m_62, .ref a39, .ref a40, .ref a41, .ref a42, .int v_m_67, .int v_m_68])), (a2, .inl (cB, 1300, .inl g_m_text))] := hD
  have L_8 : ∀ (n : Nat) (h1 : Int32) (H : Heap) (locs : List Loc) (ls : Array Slot), (0 ≤ h1.toInt ∧ h1.toInt ≤ 1300 ∧ (v_m_7.toInt ≤ h1.toInt) ∧ (h1.toInt ≤ v_m_3.toInt)) → 1300 - h1.toInt < (n : Int) → va_P G cl [(a0, .inr (10, [.ref a1, .ref a2, .int v_m_2, .int v_m_3, .int v_m_4, .int v_m_5, .int h1, .int v_m_7, .int v_m_8, .int v_m_9, .long w_m_10, .ref a3, .ref a4, .ref a5, .ref a6, .ref a7, .ref a8, .ref a9, .ref a10, .ref a11, .ref a12, .ref a13, .ref a14, .ref a15, .ref a16, .ref a17, .ref a18, .ref a19, .ref a20, .ref a21, .ref a22, .ref a23, .ref a24, .ref a25, .ref a26, .ref a27, .ref a28, .ref a29, .ref a30, .ref a31, .int 0, .int 1, .ref a32, .ref a33, .int v_m_44, .int v_m_45, .int v_m_46, .int v_m_47, .ref a34, .int v_m_49, .ref a35, .ref a36, .ref a37, .int v_m_53, .int v_m_54, .int v_m_55, .int v_m_56, .int v_m_57, .int v_m_58, .int v_m_59, .int v_m_60, .ref a38, .int v_m_62, .ref a39, .ref a40, .ref a41, .ref a42, .int v_m_67, .int v_m_68])), (a2, .inl (cB, 1300, .inl g_m_text))] H → va_D A [(a0, .inr (10, [.ref a1, .ref a2, .int v_m_2, .int v_m_3, .int v_m_4, .int v_m_5, .int h1, .int v_m_7, .int v_m_8, .int v_m_9, .long w_m_10, .ref a3, .ref a4, .ref a5, .ref a6, .ref a7, .ref a8, .ref a9, .ref a10, .ref a11, .ref a12, .ref a13, .ref a14, .ref a15, .ref a16, .ref a17, .ref a18, .ref a19, .ref a20, .ref a21, .ref a22, .ref a23, .ref a24, .ref a25, .ref a26, .ref a27, .ref a28, .ref a29, .ref a30, .ref a31, .int 0, .int 1, .ref a32, .ref a33, .int v_m_44, .int v_m_45, .int v_m_46, .int v_m_47, .ref a34, .int v_m_49, .ref a35, .ref a36, .ref a37, .int v_m_53, .int v_m_54, .int v_m_55, .int v_m_56, .int v_m_57, .int v_m_58, .int v_m_59, .int v_m_60, .ref a38, .int v_m_62, .ref a39, .ref a40, .ref a41, .ref a42, .int v_m_67, .int v_m_68])), (a2, .inl (cB, 1300, .inl g_m_text))] → va_S A s.heap H locs → lv_has ls 3 [(0, .ref a0)] → W p l e ({ frames := 1, cells := 0, slots := 0, locals := 22 } : Room) s m args below meth c H locs 0 0 Qm (F0 m 8 ls []) := by
    intro n
    induction n with
    | zero => intro h1 H locs ls hv hm; omega
    | succ n ih =>
      intro h1 H locs ls hv hm hP hD hS hl
      refine lv_aload_n hx hb dX10_goOn_8 rfl (lv_at hl 0 rfl) ?_
      refine k_get hC hK hP iX10 0 6 wf_X10_58 rfl (by decide) rfl rfl dX10_goOn_9 ?_
      refine lv_aload_n hx hb dX10_goOn_12 rfl (lv_at hl 0 rfl) ?_
      refine k_get hC hK hP iX10 0 3 wf_X10_1 rfl (by decide) rfl rfl dX10_goOn_13 ?_
      refine lv_icmp_ge (tgt := 58) hx hb dX10_goOn_16 (by decide) (fun c2 => ?_) (fun c2 => ?_)
      · have dc2 : v_m_3.toInt ≤ h1.toInt := (fa_le _ _).mp c2
        refine lv_aload_n hx hb dX10_goOn_58 rfl (lv_at hl 0 rfl) ?_
        refine lv_aload_n hx hb dX10_goOn_59 rfl (lv_at hl 0 rfl) ?_
        refine k_get hC hK hP iX10 0 6 wf_X10_58 rfl (by decide) rfl rfl dX10_goOn_60 ?_
        refine k_ci (wr := []) (k_rV hC hN hZ hS hA hK hP hD (c2_X10_sign l G cI cJ cB cZ a0 a1 a2 a3 a4 a5 a6 a7 a8 a9 a10 a11 a12 a13 a14 a15 a16 a17 a18 a19 a20 a21 a22 a23 a24 a25 a26 a27 a28 a29 a30 a31 a32 a33 a34 a35 a36 a37 a38 a39 a40 a41 a42 h1 v_m_2 v_m_3 v_m_4 v_m_5 h1 v_m_7 v_m_8 v_m_9 w_m_10 v_m_44 v_m_45 v_m_46 v_m_47 v_m_49 v_m_53 v_m_54 v_m_55 v_m_56 v_m_57 v_m_58 v_m_59 v_m_60 v_m_62 v_m_67 v_m_68 g_m_text (by omega) hT_g_m_text) [0, 1] rfl (by decide) mi_X10_sign in_X10_sign se_X10_sign wm_X10_61 10 0 rfl rfl rfl hl.1 rfl rfl (Nat.le_of_ble_eq_true rfl) ⟨(Nat.le_of_ble_eq_true rfl), (Nat.le_of_ble_eq_true rfl)⟩ dX10_goOn_63 ⟨(Nat.le_of_ble_eq_true rfl), (Nat.le_of_ble_eq_true rfl)⟩) hP hD hS hA [0, 1] [] rfl rfl (by decide) (by decide) (fun r3 u3 H locs hp hP hD hS => ?_)
        have hp : (0 ≤ r3.toInt ∧ r3.toInt ≤ 255 ∧ (r3.toInt = (sgn g_m_text v_m_3 h1).toInt) ∧ (r3.toInt = 0 ∨ h1.toInt < v_m_3.toInt)) := hp
        have hP : va_P G cl [(a0, .inr (10, [.ref a1, .ref a2, .int v_m_2, .int v_m_3, .int v_m_4, .int v_m_5, .int h1, .int v_m_7, .int v_m_8, .int v_m_9, .long w_m_10, .ref a3, .ref a4, .ref a5, .ref a6, .ref a7, .ref a8, .ref a9, .ref a10, .ref a11, .ref a12, .ref a13, .ref a14, .ref a15, .ref a16, .ref a17, .ref a18, .ref a19, .ref a20, .ref a21, .ref a22, .ref a23, .ref a24, .ref a25, .ref a26, .ref a27, .ref a28, .ref a29, .ref a30, .ref a31, .int 0, .int 1, .ref a32, .ref a33, .int v_m_44, .int v_m_45, .int v_m_46, .int v_m_47, .ref a34, .int v_m_49, .ref a35, .ref a36, .ref a37, .int v_m_53, .int v_m_54, .int v_m_55, .int v_m_56, .int v_m_57, .int v_m_58, .int v_m_59, .int v_m_60, .ref a38, .int v_m_62, .ref a39, .ref a40, .ref a41, .ref a42, .int v_m_67, .int v_m_68])), (a2, .inl (cB, 1300, .inl g_m_text))] H := hP
        have hD : va_D A [(a0, .inr (10, [.ref a1, .ref a2, .int v_m_2, .int v_m_3, .int v_m_4, .int v_m_5, .int h1, .int v_m_7, .int v_m_8, .int v_m_9, .long w_m_10, .ref a3, .ref a4, .ref a5, .ref a6, .ref a7, .ref a8, .ref a9, .ref a10, .ref a11, .ref a12, .ref a13, .ref a14, .ref a15, .ref a16, .ref a17, .ref a18, .ref a19, .ref a20, .ref a21, .ref a22, .ref a23, .ref a24, .ref a25, .ref a26, .ref a27, .ref a28, .ref a29, .ref a30, .ref a31, .int 0, .int 1, .ref a32, .ref a33, .int v_m_44, .int v_m_45, .int v_m_46, .int v_m_47, .ref a34, .int v_m_49, .ref a35, .ref a36, .ref a37, .int v_m_53, .int v_m_54, .int v_m_55, .int v_m_56, .int v_m_57, .int v_m_58, .int v_m_59, .int v_m_60, .ref a38, .int v_m_62, .ref a39, .ref a40, .ref a41, .ref a42, .int v_m_67, .int v_m_68])), (a2, .inl (cB, 1300, .inl g_m_text))] := hD
        have hq3 := hp
        refine lv_istore_n (lv' := [(1, .int r3), (0, .ref a0)]) hx hb dX10_goOn_66 rfl hl (by decide) rfl (fun ls hl => ?_)
        refine lv_aload_n hx hb dX10_goOn_67 rfl (lv_at hl 1 rfl) ?_
        refine lv_aload_n hx hb dX10_goOn_68 rfl (lv_at hl 1 rfl) ?_
        refine k_get hC hK hP iX10 0 6 wf_X10_58 rfl (by decide) rfl rfl dX10_goOn_69 ?_
        refine lv_iconst (v := 1) hx hb dX10_goOn_72 (by decide) ?_
        refine lv_iadd hx hb dX10_goOn_73 ?_
        refine t_i (fun q => q.toInt = h1.toInt + 1) (add_i (by show (-2147483648 : Int) ≤ h1.toInt + 1; omega) (by show h1.toInt + 1 ≤ (2147483647 : Int); omega)) (fun z4 tz4 => ?_)
        refine k_put hC hK hP hD hS iX10 tyX10_ok nmX10 0 7 wf_X10_55 rfl (by decide) rfl rfl rfl rfl (Nat.le_of_ble_eq_true rfl) dX10_goOn_74 (fun H locs hP hD hS => ?_)
        have hP : va_P G cl [(a0, .inr (10, [.ref a1, .ref a2, .int v_m_2, .int v_m_3, .int v_m_4, .int v_m_5, .int h1, .int z4, .int v_m_8, .int v_m_9, .long w_m_10, .ref a3, .ref a4, .ref a5, .ref a6, .ref a7, .ref a8, .ref a9, .ref a10, .ref a11, .ref a12, .ref a13, .ref a14, .ref a15, .ref a16, .ref a17, .ref a18, .ref a19, .ref a20, .ref a21, .ref a22, .ref a23, .ref a24, .ref a25, .ref a26, .ref a27, .ref a28, .ref a29, .ref a30, .ref a31, .int 0, .int 1, .ref a32, .ref a33, .int v_m_44, .int v_m_45, .int v_m_46, .int v_m_47, .ref a34, .int v_m_49, .ref a35, .ref a36, .ref a37, .int v_m_53, .int v_m_54, .int v_m_55, .int v_m_56, .int v_m_57, .int v_m_58, .int v_m_59, .int v_m_60, .ref a38, .int v_m_62, .ref a39, .ref a40, .ref a41, .ref a42, .int v_m_67, .int v_m_68])), (a2, .inl (cB, 1300, .inl g_m_text))] H := hP
        have hD : va_D A [(a0, .inr (10, [.ref a1, .ref a2, .int v_m_2, .int v_m_3, .int v_m_4, .int v_m_5, .int h1, .int z4, .int v_m_8, .int v_m_9, .long w_m_10, .ref a3, .ref a4, .ref a5, .ref a6, .ref a7, .ref a8, .ref a9, .ref a10, .ref a11, .ref a12, .ref a13, .ref a14, .ref a15, .ref a16, .ref a17, .ref a18, .ref a19, .ref a20, .ref a21, .ref a22, .ref a23, .ref a24, .ref a25, .ref a26, .ref a27, .ref a28, .ref a29, .ref a30, .ref a31, .int 0, .int 1, .ref a32, .ref a33, .int v_m_44, .int v_m_45, .int v_m_46, .int v_m_47, .ref a34, .int v_m_49, .ref a35, .ref a36, .ref a37, .int v_m_53, .int v_m_54, .int v_m_55, .int v_m_56, .int v_m_57, .int v_m_58, .int v_m_59, .int v_m_60, .ref a38, .int v_m_62, .ref a39, .ref a40, .ref a41, .ref a42, .int v_m_67, .int v_m_68])), (a2, .inl (cB, 1300, .inl g_m_text))] := hD
        refine lv_aload_n hx hb dX10_goOn_77 rfl (lv_at hl 1 rfl) ?_
        refine k_get hC hK hP iX10 0 6 wf_X10_58 rfl (by decide) rfl rfl dX10_goOn_78 ?_
        refine lv_aload_n hx hb dX10_goOn_81 rfl (lv_at hl 1 rfl) ?_
        refine k_get hC hK hP iX10 0 3 wf_X10_1 rfl (by decide) rfl rfl dX10_goOn_82 ?_
        refine lv_icmp_lt (tgt := 112) hx hb dX10_goOn_85 (by decide) (fun c5 => ?_) (fun c5 => ?_)
        · have dc5 : h1.toInt < v_m_3.toInt := (fa_lt _ _).mp c5
          refine lv_iload_n hx hb dX10_goOn_112 rfl (lv_at hl 0 rfl) ?_
          refine k_ci (wr := [(a0, .inr (10, [.ref a1, .ref a2, .int v_m_2, .int v_m_3, .int v_m_4, .int v_m_5, .int h1, .int z4, .int v_m_8, .int v_m_9, .long w_m_10, .ref a3, .ref a4, .ref a5, .ref a6, .ref a7, .ref a8, .ref a9, .ref a10, .ref a11, .ref a12, .ref a13, .ref a14, .ref a15, .ref a16, .ref a17, .ref a18, .ref a19, .ref a20, .ref a21, .ref a22, .ref a23, .ref a24, .ref a25, .ref a26, .ref a27, .ref a28, .ref a29, .ref a30, .ref a31, .int 0, .int 1, .ref a32, .ref a33, .int v_m_44, .int v_m_45, .int v_m_46, .int v_m_47, .ref a34, .int v_m_49, .ref a35, .ref a36, .ref a37, .int v_m_53, .int v_m_54, .int v_m_55, .int v_m_56, .int v_m_57, .int v_m_58, .int v_m_59, .int v_m_60, .ref a38, .int v_m_62, .ref a39, .ref a40, .ref a41, .ref a42, .int v_m_67, .int v_m_68])), (a2, .inl (cB, 1300, .inl g_m_text))]) (k_rS hC hN hZ hS hA hK hP hD (c3_X10_isLetter l G cI cJ cB cZ r3) [] rfl (by decide) mi_X10_isLetter st_X10_isLetter wm_X10_68 hl.1 rfl rfl (Nat.le_of_ble_eq_true rfl) ⟨(Nat.le_of_ble_eq_true rfl), (Nat.le_of_ble_eq_true rfl)⟩ dX10_goOn_113 ⟨(Nat.le_of_ble_eq_true rfl), (Nat.le_of_ble_eq_true rfl)⟩) hP hD hS hA [] [0, 1] rfl rfl (by decide) (by decide) (fun r6 u6 H locs hp hP hD hS => ?_)
          have hP : va_P G cl [(a0, .inr (10, [.ref a1, .ref a2, .int v_m_2, .int v_m_3, .int v_m_4, .int v_m_5, .int h1, .int z4, .int v_m_8, .int v_m_9, .long w_m_10, .ref a3, .ref a4, .ref a5, .ref a6, .ref a7, .ref a8, .ref a9, .ref a10, .ref a11, .ref a12, .ref a13, .ref a14, .ref a15, .ref a16, .ref a17, .ref a18, .ref a19, .ref a20, .ref a21, .ref a22, .ref a23, .ref a24, .ref a25, .ref a26, .ref a27, .ref a28, .ref a29, .ref a30, .ref a31, .int 0, .int 1, .ref a32, .ref a33, .int v_m_44, .int v_m_45, .int v_m_46, .int v_m_47, .ref a34, .int v_m_49, .ref a35, .ref a36, .ref a37, .int v_m_53, .int v_m_54, .int v_m_55, .int v_m_56, .int v_m_57, .int v_m_58, .int v_m_59, .int v_m_60, .ref a38, .int v_m_62, .ref a39, .ref a40, .ref a41, .ref a42, .int v_m_67, .int v_m_68])), (a2, .inl (cB, 1300, .inl g_m_text))] H := hP
          have hD : va_D A [(a0, .inr (10, [.ref a1, .ref a2, .int v_m_2, .int v_m_3, .int v_m_4, .int v_m_5, .int h1, .int z4, .int v_m_8, .int v_m_9, .long w_m_10, .ref a3, .ref a4, .ref a5, .ref a6, .ref a7, .ref a8, .ref a9, .ref a10, .ref a11, .ref a12, .ref a13, .ref a14, .ref a15, .ref a16, .ref a17, .ref a18, .ref a19, .ref a20, .ref a21, .ref a22, .ref a23, .ref a24, .ref a25, .ref a26, .ref a27, .ref a28, .ref a29, .ref a30, .ref a31, .int 0, .int 1, .ref a32, .ref a33, .int v_m_44, .int v_m_45, .int v_m_46, .int v_m_47, .ref a34, .int v_m_49, .ref a35, .ref a36, .ref a37, .int v_m_53, .int v_m_54, .int v_m_55, .int v_m_56, .int v_m_57, .int v_m_58, .int v_m_59, .int v_m_60, .ref a38, .int v_m_62, .ref a39, .ref a40, .ref a41, .ref a42, .int v_m_67, .int v_m_68])), (a2, .inl (cB, 1300, .inl g_m_text))] := hD
          rcases (show (r6 = 0 ∧ (True)) ∨ (r6 = 1 ∧ (97 ≤ r3.toInt ∧ r3.toInt ≤ 122)) from hp) with ⟨rfl, hq6⟩ | ⟨rfl, hq6⟩
          · have l_6 : (0 : Int32).toInt = 0 := rfl
            refine lv_if_eq (tgt := 239) hx hb dX10_goOn_116 (by decide) (fun _ => ?_) (fun c_ => absurd (by decide +kernel) c_)
            refine lv_iload_n hx hb dX10_goOn_239 rfl (lv_at hl 0 rfl) ?_
            refine k_ci (wr := [(a0, .inr (10, [.ref a1, .ref a2, .int v_m_2, .int v_m_3, .int v_m_4, .int v_m_5, .int h1, .int z4, .int v_m_8, .int v_m_9, .long w_m_10, .ref a3, .ref a4, .ref a5, .ref a6, .ref a7, .ref a8, .ref a9, .ref a10, .ref a11, .ref a12, .ref a13, .ref a14, .ref a15, .ref a16, .ref a17, .ref a18, .ref a19, .ref a20, .ref a21, .ref a22, .ref a23, .ref a24, .ref a25, .ref a26, .ref a27, .ref a28, .ref a29, .ref a30, .ref a31, .int 0, .int 1, .ref a32, .ref a33, .int v_m_44, .int v_m_45, .int v_m_46, .int v_m_47, .ref a34, .int v_m_49, .ref a35, .ref a36, .ref a37, .int v_m_53, .int v_m_54, .int v_m_55, .int v_m_56, .int v_m_57, .int v_m_58, .int v_m_59, .int v_m_60, .ref a38, .int v_m_62, .ref a39, .ref a40, .ref a41, .ref a42, .int v_m_67, .int v_m_68])), (a2, .inl (cB, 1300, .inl g_m_text))]) (k_rS hC hN hZ hS hA hK hP hD (c4_X10_isDigit l G cI cJ cB cZ r3) [] rfl (by decide) mi_X10_isDigit st_X10_isDigit wm_X10_80 hl.1 rfl rfl (Nat.le_of_ble_eq_true rfl) ⟨(Nat.le_of_ble_eq_true rfl), (Nat.le_of_ble_eq_true rfl)⟩ dX10_goOn_240 ⟨(Nat.le_of_ble_eq_true rfl), (Nat.le_of_ble_eq_true rfl)⟩) hP hD hS hA [] [0, 1] rfl rfl (by decide) (by decide) (fun r7 u7 H locs hp hP hD hS => ?_)
            have hP : va_P G cl [(a0, .inr (10, [.ref a1, .ref a2, .int v_m_2, .int v_m_3, .int v_m_4, .int v_m_5, .int h1, .int z4, .int v_m_8, .int v_m_9, .long w_m_10, .ref a3, .ref a4, .ref a5, .ref a6, .ref a7, .ref a8, .ref a9, .ref a10, .ref a11, .ref a12, .ref a13, .ref a14, .ref a15, .ref a16, .ref a17, .ref a18, .ref a19, .ref a20, .ref a21, .ref a22, .ref a23, .ref a24, .ref a25, .ref a26, .ref a27, .ref a28, .ref a29, .ref a30, .ref a31, .int 0, .int 1, .ref a32, .ref a33, .int v_m_44, .int v_m_45, .int v_m_46, .int v_m_47, .ref a34, .int v_m_49, .ref a35, .ref a36, .ref a37, .int v_m_53, .int v_m_54, .int v_m_55, .int v_m_56, .int v_m_57, .int v_m_58, .int v_m_59, .int v_m_60, .ref a38, .int v_m_62, .ref a39, .ref a40, .ref a41, .ref a42, .int v_m_67, .int v_m_68])), (a2, .inl (cB, 1300, .inl g_m_text))] H := hP
            have hD : va_D A [(a0, .inr (10, [.ref a1, .ref a2, .int v_m_2, .int v_m_3, .int v_m_4, .int v_m_5, .int h1, .int z4, .int v_m_8, .int v_m_9, .long w_m_10, .ref a3, .ref a4, .ref a5, .ref a6, .ref a7, .ref a8, .ref a9, .ref a10, .ref a11, .ref a12, .ref a13, .ref a14, .ref a15, .ref a16, .ref a17, .ref a18, .ref a19, .ref a20, .ref a21, .ref a22, .ref a23, .ref a24, .ref a25, .ref a26, .ref a27, .ref a28, .ref a29, .ref a30, .ref a31, .int 0, .int 1, .ref a32, .ref a33, .int v_m_44, .int v_m_45, .int v_m_46, .int v_m_47, .ref a34, .int v_m_49, .ref a35, .ref a36, .ref a37, .int v_m_53, .int v_m_54, .int v_m_55, .int v_m_56, .int v_m_57, .int v_m_58, .int v_m_59, .int v_m_60, .ref a38, .int v_m_62, .ref a39, .ref a40, .ref a41, .ref a42, .int v_m_67, .int v_m_68])), (a2, .inl (cB, 1300, .inl g_m_text))] := hD
            rcases (show (r7 = 0 ∧ ((r7.toInt ≠ 0 ∨ r3.toInt < 48 ∨ 57 < r3.toInt))) ∨ (r7 = 1 ∧ ((r7.toInt ≠ 0 ∨ r3.toInt < 48 ∨ 57 < r3.toInt) ∧ 48 ≤ r3.toInt ∧ r3.toInt ≤ 57)) from hp) with ⟨rfl, hq7⟩ | ⟨rfl, hq7⟩
            · have l_7 : (0 : Int32).toInt = 0 := rfl
              refine lv_if_eq (tgt := 361) hx hb dX10_goOn_243 (by decide) (fun _ => ?_) (fun c_ => absurd (by decide +kernel) c_)
              refine lv_aload_n hx hb dX10_goOn_361 rfl (lv_at hl 1 rfl) ?_
              refine lv_iload_n hx hb dX10_goOn_362 rfl (lv_at hl 0 rfl) ?_
              refine lv_bipush (v := 59) hx hb dX10_goOn_363 (by decide) ?_
              refine lv_icmp_ne (tgt := 372) hx hb dX10_goOn_365 (by decide) (fun c8 => ?_) (fun c8 => ?_)
              · have dc8 : r3.toInt ≠ 59 := fa_ne c8
                refine lv_iconst (v := 1) hx hb dX10_goOn_372 (by decide) ?_
                refine k_put hC hK hP hD hS iX10 tyX10_ok nmX10 0 8 wf_X10_65 rfl (by decide) rfl rfl rfl rfl (Nat.le_of_ble_eq_true rfl) dX10_goOn_373 (fun H locs hP hD hS => ?_)
                have hP : va_P G cl [(a0, .inr (10, [.ref a1, .ref a2, .int v_m_2, .int v_m_3, .int v_m_4, .int v_m_5, .int h1, .int z4, .int 1, .int v_m_9, .long w_m_10, .ref a3, .ref a4, .ref a5, .ref a6, .ref a7, .ref a8, .ref a9, .ref a10, .ref a11, .ref a12, .ref a13, .ref a14, .ref a15, .ref a16, .ref a17, .ref a18, .ref a19, .ref a20, .ref a21, .ref a22, .ref a23, .ref a24, .ref a25, .ref a26, .ref a27, .ref a28, .ref a29, .ref a30, .ref a31, .int 0, .int 1, .ref a32, .ref a33, .int v_m_44, .int v_m_45, .int v_m_46, .int v_m_47, .ref a34, .int v_m_49, .ref a35, .ref a36, .ref a37, .int v_m_53, .int v_m_54, .int v_m_55, .int v_m_56, .int v_m_57, .int v_m_58, .int v_m_59, .int v_m_60, .ref a38, .int v_m_62, .ref a39, .ref a40, .ref a41, .ref a42, .int v_m_67, .int v_m_68])), (a2, .inl (cB, 1300, .inl g_m_text))] H := hP
                have hD : va_D A [(a0, .inr (10, [.ref a1, .ref a2, .int v_m_2, .int v_m_3, .int v_m_4, .int v_m_5, .int h1, .int z4, .int 1, .int v_m_9, .long w_m_10, .ref a3, .ref a4, .ref a5, .ref a6, .ref a7, .ref a8, .ref a9, .ref a10, .ref a11, .ref a12, .ref a13, .ref a14, .ref a15, .ref a16, .ref a17, .ref a18, .ref a19, .ref a20, .ref a21, .ref a22, .ref a23, .ref a24, .ref a25, .ref a26, .ref a27, .ref a28, .ref a29, .ref a30, .ref a31, .int 0, .int 1, .ref a32, .ref a33, .int v_m_44, .int v_m_45, .int v_m_46, .int v_m_47, .ref a34, .int v_m_49, .ref a35, .ref a36, .ref a37, .int v_m_53, .int v_m_54, .int v_m_55, .int v_m_56, .int v_m_57, .int v_m_58, .int v_m_59, .int v_m_60, .ref a38, .int v_m_62, .ref a39, .ref a40, .ref a41, .ref a42, .int v_m_67, .int v_m_68])), (a2, .inl (cB, 1300, .inl g_m_text))] := hD
                have l_l9 : (1 : Int32).toInt = 1 := rfl
                rw [← hQm]
                exact k_vret hC hr hlk hK hP hD hS (h1, z4, 1, v_m_9, w_m_10) [0, 1] rfl (by decide) (show 0 ≤ h1.toInt ∧ h1.toInt ≤ 1300 ∧ 0 ≤ z4.toInt ∧ z4.toInt ≤ 1300 ∧ 0 ≤ (1 : Int32).toInt ∧ (1 : Int32).toInt ≤ 5 ∧ 0 ≤ v_m_9.toInt ∧ v_m_9.toInt ≤ 9999 ∧ (v_m_7.toInt ≤ z4.toInt) ∧ ((1 : Int32).toInt ≤ 5 * (z4.toInt - v_m_7.toInt)) ∧ (z4.toInt ≤ v_m_3.toInt) from by omega) (Nat.le_of_ble_eq_true rfl) (Nat.le_of_ble_eq_true rfl) dX10_goOn_376
              · have dc8 : r3.toInt = 59 := (fa_eq _ _).mp c8
                refine lv_iconst (v := 5) hx hb dX10_goOn_368 (by decide) ?_
                refine lv_goto (tgt := 373) hx hb dX10_goOn_369 (by decide) ?_
                refine k_put hC hK hP hD hS iX10 tyX10_ok nmX10 0 8 wf_X10_65 rfl (by decide) rfl rfl rfl rfl (Nat.le_of_ble_eq_true rfl) dX10_goOn_373 (fun H locs hP hD hS => ?_)
                have hP : va_P G cl [(a0, .inr (10, [.ref a1, .ref a2, .int v_m_2, .int v_m_3, .int v_m_4, .int v_m_5, .int h1, .int z4, .int 5, .int v_m_9, .long w_m_10, .ref a3, .ref a4, .ref a5, .ref a6, .ref a7, .ref a8, .ref a9, .ref a10, .ref a11, .ref a12, .ref a13, .ref a14, .ref a15, .ref a16, .ref a17, .ref a18, .ref a19, .ref a20, .ref a21, .ref a22, .ref a23, .ref a24, .ref a25, .ref a26, .ref a27, .ref a28, .ref a29, .ref a30, .ref a31, .int 0, .int 1, .ref a32, .ref a33, .int v_m_44, .int v_m_45, .int v_m_46, .int v_m_47, .ref a34, .int v_m_49, .ref a35, .ref a36, .ref a37, .int v_m_53, .int v_m_54, .int v_m_55, .int v_m_56, .int v_m_57, .int v_m_58, .int v_m_59, .int v_m_60, .ref a38, .int v_m_62, .ref a39, .ref a40, .ref a41, .ref a42, .int v_m_67, .int v_m_68])), (a2, .inl (cB, 1300, .inl g_m_text))] H := hP
                have hD : va_D A [(a0, .inr (10, [.ref a1, .ref a2, .int v_m_2, .int v_m_3, .int v_m_4, .int v_m_5, .int h1, .int z4, .int 5, .int v_m_9, .long w_m_10, .ref a3, .ref a4, .ref a5, .ref a6, .ref a7, .ref a8, .ref a9, .ref a10, .ref a11, .ref a12, .ref a13, .ref a14, .ref a15, .ref a16, .ref a17, .ref a18, .ref a19, .ref a20, .ref a21, .ref a22, .ref a23, .ref a24, .ref a25, .ref a26, .ref a27, .ref a28, .ref a29, .ref a30, .ref a31, .int 0, .int 1, .ref a32, .ref a33, .int v_m_44, .int v_m_45, .int v_m_46, .int v_m_47, .ref a34, .int v_m_49, .ref a35, .ref a36, .ref a37, .int v_m_53, .int v_m_54, .int v_m_55, .int v_m_56, .int v_m_57, .int v_m_58, .int v_m_59, .int v_m_60, .ref a38, .int v_m_62, .ref a39, .ref a40, .ref a41, .ref a42, .int v_m_67, .int v_m_68])), (a2, .inl (cB, 1300, .inl g_m_text))] := hD
                have l_l10 : (5 : Int32).toInt = 5 := rfl
                rw [← hQm]
                exact k_vret hC hr hlk hK hP hD hS (h1, z4, 5, v_m_9, w_m_10) [0, 1] rfl (by decide) (show 0 ≤ h1.toInt ∧ h1.toInt ≤ 1300 ∧ 0 ≤ z4.toInt ∧ z4.toInt ≤ 1300 ∧ 0 ≤ (5 : Int32).toInt ∧ (5 : Int32).toInt ≤ 5 ∧ 0 ≤ v_m_9.toInt ∧ v_m_9.toInt ≤ 9999 ∧ (v_m_7.toInt ≤ z4.toInt) ∧ ((5 : Int32).toInt ≤ 5 * (z4.toInt - v_m_7.toInt)) ∧ (z4.toInt ≤ v_m_3.toInt) from by omega) (Nat.le_of_ble_eq_true rfl) (Nat.le_of_ble_eq_true rfl) dX10_goOn_376
            · have l_7 : (1 : Int32).toInt = 1 := rfl
              refine lv_if_eq (tgt := 361) hx hb dX10_goOn_243 (by decide) (fun c_ => absurd c_ (by decide +kernel)) (fun _ => ?_)
              refine lv_aload_n hx hb dX10_goOn_246 rfl (lv_at hl 1 rfl) ?_
              refine lv_iconst (v := 0) hx hb dX10_goOn_247 (by decide) ?_
              refine k_put hC hK hP hD hS iX10 tyX10_ok nmX10 0 9 wf_X10_83 rfl (by decide) rfl rfl rfl rfl (Nat.le_of_ble_eq_true rfl) dX10_goOn_248 (fun H locs hP hD hS => ?_)
              have hP : va_P G cl [(a0, .inr (10, [.ref a1, .ref a2, .int v_m_2, .int v_m_3, .int v_m_4, .int v_m_5, .int h1, .int z4, .int v_m_8, .int 0, .long w_m_10, .ref a3, .ref a4, .ref a5, .ref a6, .ref a7, .ref a8, .ref a9, .ref a10, .ref a11, .ref a12, .ref a13, .ref a14, .ref a15, .ref a16, .ref a17, .ref a18, .ref a19, .ref a20, .ref a21, .ref a22, .ref a23, .ref a24, .ref a25, .ref a26, .ref a27, .ref a28, .ref a29, .ref a30, .ref a31, .int 0, .int 1, .ref a32, .ref a33, .int v_m_44, .int v_m_45, .int v_m_46, .int v_m_47, .ref a34, .int v_m_49, .ref a35, .ref a36, .ref a37, .int v_m_53, .int v_m_54, .int v_m_55, .int v_m_56, .int v_m_57, .int v_m_58, .int v_m_59, .int v_m_60, .ref a38, .int v_m_62, .ref a39, .ref a40, .ref a41, .ref a42, .int v_m_67, .int v_m_68])), (a2, .inl (cB, 1300, .inl g_m_text))] H := hP
              have hD : va_D A [(a0, .inr (10, [.ref a1, .ref a2, .int v_m_2, .int v_m_3, .int v_m_4, .int v_m_5, .int h1, .int z4, .int v_m_8, .int 0, .long w_m_10, .ref a3, .ref a4, .ref a5, .ref a6, .ref a7, .ref a8, .ref a9, .ref a10, .ref a11, .ref a12, .ref a13, .ref a14, .ref a15, .ref a16, .ref a17, .ref a18, .ref a19, .ref a20, .ref a21, .ref a22, .ref a23, .ref a24, .ref a25, .ref a26, .ref a27, .ref a28, .ref a29, .ref a30, .ref a31, .int 0, .int 1, .ref a32, .ref a33, .int v_m_44, .int v_m_45, .int v_m_46, .int v_m_47, .ref a34, .int v_m_49, .ref a35, .ref a36, .ref a37, .int v_m_53, .int v_m_54, .int v_m_55, .int v_m_56, .int v_m_57, .int v_m_58, .int v_m_59, .int v_m_60, .ref a38, .int v_m_62, .ref a39, .ref a40, .ref a41, .ref a42, .int v_m_67, .int v_m_68])), (a2, .inl (cB, 1300, .inl g_m_text))] := hD
              refine lv_aload_n hx hb dX10_goOn_251 rfl (lv_at hl 1 rfl) ?_
              refine lv_aload_n hx hb dX10_goOn_252 rfl (lv_at hl 1 rfl) ?_
              refine k_get hC hK hP iX10 0 6 wf_X10_58 rfl (by decide) rfl rfl dX10_goOn_253 ?_
              refine k_put hC hK hP hD hS iX10 tyX10_ok nmX10 0 7 wf_X10_55 rfl (by decide) rfl rfl rfl rfl (Nat.le_of_ble_eq_true rfl) dX10_goOn_256 (fun H locs hP hD hS => ?_)
              have hP : va_P G cl [(a0, .inr (10, [.ref a1, .ref a2, .int v_m_2, .int v_m_3, .int v_m_4, .int v_m_5, .int h1, .int h1, .int v_m_8, .int 0, .long w_m_10, .ref a3, .ref a4, .ref a5, .ref a6, .ref a7, .ref a8, .ref a9, .ref a10, .ref a11, .ref a12, .ref a13, .ref a14, .ref a15, .ref a16, .ref a17, .ref a18, .ref a19, .ref a20, .ref a21, .ref a22, .ref a23, .ref a24, .ref a25, .ref a26, .ref a27, .ref a28, .ref a29, .ref a30, .ref a31, .int 0, .int 1, .ref a32, .ref a33, .int v_m_44, .int v_m_45, .int v_m_46, .int v_m_47, .ref a34, .int v_m_49, .ref a35, .ref a36, .ref a37, .int v_m_53, .int v_m_54, .int v_m_55, .int v_m_56, .int v_m_57, .int v_m_58, .int v_m_59, .int v_m_60, .ref a38, .int v_m_62, .ref a39, .ref a40, .ref a41, .ref a42, .int v_m_67, .int v_m_68])), (a2, .inl (cB, 1300, .inl g_m_text))] H := hP
              have hD : va_D A [(a0, .inr (10, [.ref a1, .ref a2, .int v_m_2, .int v_m_3, .int v_m_4, .int v_m_5, .int h1, .int h1, .int v_m_8, .int 0, .long w_m_10, .ref a3, .ref a4, .ref a5, .ref a6, .ref a7, .ref a8, .ref a9, .ref a10, .ref a11, .ref a12, .ref a13, .ref a14, .ref a15, .ref a16, .ref a17, .ref a18, .ref a19, .ref a20, .ref a21, .ref a22, .ref a23, .ref a24, .ref a25, .ref a26, .ref a27, .ref a28, .ref a29, .ref a30, .ref a31, .int 0, .int 1, .ref a32, .ref a33, .int v_m_44, .int v_m_45, .int v_m_46, .int v_m_47, .ref a34, .int v_m_49, .ref a35, .ref a36, .ref a37, .int v_m_53, .int v_m_54, .int v_m_55, .int v_m_56, .int v_m_57, .int v_m_58, .int v_m_59, .int v_m_60, .ref a38, .int v_m_62, .ref a39, .ref a40, .ref a41, .ref a42, .int v_m_67, .int v_m_68])), (a2, .inl (cB, 1300, .inl g_m_text))] := hD
              have L_259 : ∀ (n : Nat) (h11 : Int32) (h12 : Int32) (H : Heap) (locs : List Loc) (ls : Array Slot), (0 ≤ h11.toInt ∧ h11.toInt ≤ 1300 ∧ 0 ≤ h12.toInt ∧ h12.toInt ≤ 9999 ∧ ((h11.toInt - h1.toInt = 0 ∧ h12.toInt = 0) ∨ (h11.toInt - h1.toInt = 1 ∧ h12.toInt ≤ 9) ∨ (h11.toInt - h1.toInt = 2 ∧ h12.toInt ≤ 99) ∨ (h11.toInt - h1.toInt = 3 ∧ h12.toInt ≤ 999) ∨ (4 ≤ h11.toInt - h1.toInt ∧ h12.toInt ≤ 9999)) ∧ (h1.toInt ≤ h11.toInt) ∧ (h11.toInt ≤ v_m_3.toInt) ∧ (h11.toInt ≠ h1.toInt ∨ (sgn g_m_text v_m_3 h11).toInt = (sgn g_m_text v_m_3 h1).toInt)) → 1300 - h11.toInt < (n : Int) → va_P G cl [(a0, .inr (10, [.ref a1, .ref a2, .int v_m_2, .int v_m_3, .int v_m_4, .int v_m_5, .int h1, .int h11, .int v_m_8, .int h12, .long w_m_10, .ref a3, .ref a4, .ref a5, .ref a6, .ref a7, .ref a8, .ref a9, .ref a10, .ref a11, .ref a12, .ref a13, .ref a14, .ref a15, .ref a16, .ref a17, .ref a18, .ref a19, .ref a20, .ref a21, .ref a22, .ref a23, .ref a24, .ref a25, .ref a26, .ref a27, .ref a28, .ref a29, .ref a30, .ref a31, .int 0, .int 1, .ref a32, .ref a33, .int v_m_44, .int v_m_45, .int v_m_46, .int v_m_47, .ref a34, .int v_m_49, .ref a35, .ref a36, .ref a37, .int v_m_53, .int v_m_54, .int v_m_55, .int v_m_56, .int v_m_57, .int v_m_58, .int v_m_59, .int v_m_60, .ref a38, .int v_m_62, .ref a39, .ref a40, .ref a41, .ref a42, .int v_m_67, .int v_m_68])), (a2, .inl (cB, 1300, .inl g_m_text))] H → va_D A [(a0, .inr (10, [.ref a1, .ref a2, .int v_m_2, .int v_m_3, .int v_m_4, .int v_m_5, .int h1, .int h11, .int v_m_8, .int h12, .long w_m_10, .ref a3, .ref a4, .ref a5, .ref a6, .ref a7, .ref a8, .ref a9, .ref a10, .ref a11, .ref a12, .ref a13, .ref a14, .ref a15, .ref a16, .ref a17, .ref a18, .ref a19, .ref a20, .ref a21, .ref a22, .ref a23, .ref a24, .ref a25, .ref a26, .ref a27, .ref a28, .ref a29, .ref a30, .ref a31, .int 0, .int 1, .ref a32, .ref a33, .int v_m_44, .int v_m_45, .int v_m_46, .int v_m_47, .ref a34, .int v_m_49, .ref a35, .ref a36, .ref a37, .int v_m_53, .int v_m_54, .int v_m_55, .int v_m_56, .int v_m_57, .int v_m_58, .int v_m_59, .int v_m_60, .ref a38, .int v_m_62, .ref a39, .ref a40, .ref a41, .ref a42, .int v_m_67, .int v_m_68])), (a2, .inl (cB, 1300, .inl g_m_text))] → va_S A s.heap H locs → lv_has ls 3 [(0, .ref a0), (1, .int r3)] → W p l e ({ frames := 1, cells := 0, slots := 0, locals := 22 } : Room) s m args below meth c H locs 0 0 Qm (F0 m 259 ls []) := by
                intro n
                induction n with
                | zero => intro h11 h12 H locs ls hv hm; omega
                | succ n ih_259 =>
                  intro h11 h12 H locs ls hv hm hP hD hS hl
                  refine lv_aload_n hx hb dX10_goOn_259 rfl (lv_at hl 0 rfl) ?_
                  refine lv_aload_n hx hb dX10_goOn_260 rfl (lv_at hl 0 rfl) ?_
                  refine k_get hC hK hP iX10 0 7 wf_X10_55 rfl (by decide) rfl rfl dX10_goOn_261 ?_
                  refine k_ci (wr := []) (k_rV hC hN hZ hS hA hK hP hD (c2_X10_sign l G cI cJ cB cZ a0 a1 a2 a3 a4 a5 a6 a7 a8 a9 a10 a11 a12 a13 a14 a15 a16 a17 a18 a19 a20 a21 a22 a23 a24 a25 a26 a27 a28 a29 a30 a31 a32 a33 a34 a35 a36 a37 a38 a39 a40 a41 a42 h11 v_m_2 v_m_3 v_m_4 v_m_5 h1 h11 v_m_8 h12 w_m_10 v_m_44 v_m_45 v_m_46 v_m_47 v_m_49 v_m_53 v_m_54 v_m_55 v_m_56 v_m_57 v_m_58 v_m_59 v_m_60 v_m_62 v_m_67 v_m_68 g_m_text (by omega) hT_g_m_text) [0, 1] rfl (by decide) mi_X10_sign in_X10_sign se_X10_sign wm_X10_61 10 0 rfl rfl rfl hl.1 rfl rfl (Nat.le_of_ble_eq_true rfl) ⟨(Nat.le_of_ble_eq_true rfl), (Nat.le_of_ble_eq_true rfl)⟩ dX10_goOn_264 ⟨(Nat.le_of_ble_eq_true rfl), (Nat.le_of_ble_eq_true rfl)⟩) hP hD hS hA [0, 1] [] rfl rfl (by decide) (by decide) (fun r13 u13 H locs hp hP hD hS => ?_)
                  have hp : (0 ≤ r13.toInt ∧ r13.toInt ≤ 255 ∧ (r13.toInt = (sgn g_m_text v_m_3 h11).toInt) ∧ (r13.toInt = 0 ∨ h11.toInt < v_m_3.toInt)) := hp
                  have hP : va_P G cl [(a0, .inr (10, [.ref a1, .ref a2, .int v_m_2, .int v_m_3, .int v_m_4, .int v_m_5, .int h1, .int h11, .int v_m_8, .int h12, .long w_m_10, .ref a3, .ref a4, .ref a5, .ref a6, .ref a7, .ref a8, .ref a9, .ref a10, .ref a11, .ref a12, .ref a13, .ref a14, .ref a15, .ref a16, .ref a17, .ref a18, .ref a19, .ref a20, .ref a21, .ref a22, .ref a23, .ref a24, .ref a25, .ref a26, .ref a27, .ref a28, .ref a29, .ref a30, .ref a31, .int 0, .int 1, .ref a32, .ref a33, .int v_m_44, .int v_m_45, .int v_m_46, .int v_m_47, .ref a34, .int v_m_49, .ref a35, .ref a36, .ref a37, .int v_m_53, .int v_m_54, .int v_m_55, .int v_m_56, .int v_m_57, .int v_m_58, .int v_m_59, .int v_m_60, .ref a38, .int v_m_62, .ref a39, .ref a40, .ref a41, .ref a42, .int v_m_67, .int v_m_68])), (a2, .inl (cB, 1300, .inl g_m_text))] H := hP
                  have hD : va_D A [(a0, .inr (10, [.ref a1, .ref a2, .int v_m_2, .int v_m_3, .int v_m_4, .int v_m_5, .int h1, .int h11, .int v_m_8, .int h12, .long w_m_10, .ref a3, .ref a4, .ref a5, .ref a6, .ref a7, .ref a8, .ref a9, .ref a10, .ref a11, .ref a12, .ref a13, .ref a14, .ref a15, .ref a16, .ref a17, .ref a18, .ref a19, .ref a20, .ref a21, .ref a22, .ref a23, .ref a24, .ref a25, .ref a26, .ref a27, .ref a28, .ref a29, .ref a30, .ref a31, .int 0, .int 1, .ref a32, .ref a33, .int v_m_44, .int v_m_45, .int v_m_46, .int v_m_47, .ref a34, .int v_m_49, .ref a35, .ref a36, .ref a37, .int v_m_53, .int v_m_54, .int v_m_55, .int v_m_56, .int v_m_57, .int v_m_58, .int v_m_59, .int v_m_60, .ref a38, .int v_m_62, .ref a39, .ref a40, .ref a41, .ref a42, .int v_m_67, .int v_m_68])), (a2, .inl (cB, 1300, .inl g_m_text))] := hD
                  have hq13 := hp
                  refine k_ci (wr := [(a0, .inr (10, [.ref a1, .ref a2, .int v_m_2, .int v_m_3, .int v_m_4, .int v_m_5, .int h1, .int h11, .int v_m_8, .int h12, .long w_m_10, .ref a3, .ref a4, .ref a5, .ref a6, .ref a7, .ref a8, .ref a9, .ref a10, .ref a11, .ref a12, .ref a13, .ref a14, .ref a15, .ref a16, .ref a17, .ref a18, .ref a19, .ref a20, .ref a21, .ref a22, .ref a23, .ref a24, .ref a25, .ref a26, .ref a27, .ref a28, .ref a29, .ref a30, .ref a31, .int 0, .int 1, .ref a32, .ref a33, .int v_m_44, .int v_m_45, .int v_m_46, .int v_m_47, .ref a34, .int v_m_49, .ref a35, .ref a36, .ref a37, .int v_m_53, .int v_m_54, .int v_m_55, .int v_m_56, .int v_m_57, .int v_m_58, .int v_m_59, .int v_m_60, .ref a38, .int v_m_62, .ref a39, .ref a40, .ref a41, .ref a42, .int v_m_67, .int v_m_68])), (a2, .inl (cB, 1300, .inl g_m_text))]) (k_rS hC hN hZ hS hA hK hP hD (c4_X10_isDigit l G cI cJ cB cZ r13) [] rfl (by decide) mi_X10_isDigit st_X10_isDigit wm_X10_80 hl.1 rfl rfl (Nat.le_of_ble_eq_true rfl) ⟨(Nat.le_of_ble_eq_true rfl), (Nat.le_of_ble_eq_true rfl)⟩ dX10_goOn_267 ⟨(Nat.le_of_ble_eq_true rfl), (Nat.le_of_ble_eq_true rfl)⟩) hP hD hS hA [] [0, 1] rfl rfl (by decide) (by decide) (fun r14 u14 H locs hp hP hD hS => ?_)
                  have hP : va_P G cl [(a0, .inr (10, [.ref a1, .ref a2, .int v_m_2, .int v_m_3, .int v_m_4, .int v_m_5, .int h1, .int h11, .int v_m_8, .int h12, .long w_m_10, .ref a3, .ref a4, .ref a5, .ref a6, .ref a7, .ref a8, .ref a9, .ref a10, .ref a11, .ref a12, .ref a13, .ref a14, .ref a15, .ref a16, .ref a17, .ref a18, .ref a19, .ref a20, .ref a21, .ref a22, .ref a23, .ref a24, .ref a25, .ref a26, .ref a27, .ref a28, .ref a29, .ref a30, .ref a31, .int 0, .int 1, .ref a32, .ref a33, .int v_m_44, .int v_m_45, .int v_m_46, .int v_m_47, .ref a34, .int v_m_49, .ref a35, .ref a36, .ref a37, .int v_m_53, .int v_m_54, .int v_m_55, .int v_m_56, .int v_m_57, .int v_m_58, .int v_m_59, .int v_m_60, .ref a38, .int v_m_62, .ref a39, .ref a40, .ref a41, .ref a42, .int v_m_67, .int v_m_68])), (a2, .inl (cB, 1300, .inl g_m_text))] H := hP
                  have hD : va_D A [(a0, .inr (10, [.ref a1, .ref a2, .int v_m_2, .int v_m_3, .int v_m_4, .int v_m_5, .int h1, .int h11, .int v_m_8, .int h12, .long w_m_10, .ref a3, .ref a4, .ref a5, .ref a6, .ref a7, .ref a8, .ref a9, .ref a10, .ref a11, .ref a12, .ref a13, .ref a14, .ref a15, .ref a16, .ref a17, .ref a18, .ref a19, .ref a20, .ref a21, .ref a22, .ref a23, .ref a24, .ref a25, .ref a26, .ref a27, .ref a28, .ref a29, .ref a30, .ref a31, .int 0, .int 1, .ref a32, .ref a33, .int v_m_44, .int v_m_45, .int v_m_46, .int v_m_47, .ref a34, .int v_m_49, .ref a35, .ref a36, .ref a37, .int v_m_53, .int v_m_54, .int v_m_55, .int v_m_56, .int v_m_57, .int v_m_58, .int v_m_59, .int v_m_60, .ref a38, .int v_m_62, .ref a39, .ref a40, .ref a41, .ref a42, .int v_m_67, .int v_m_68])), (a2, .inl (cB, 1300, .inl g_m_text))] := hD
                  rcases (show (r14 = 0 ∧ ((r14.toInt ≠ 0 ∨ r13.toInt < 48 ∨ 57 < r13.toInt))) ∨ (r14 = 1 ∧ ((r14.toInt ≠ 0 ∨ r13.toInt < 48 ∨ 57 < r13.toInt) ∧ 48 ≤ r13.toInt ∧ r13.toInt ≤ 57)) from hp) with ⟨rfl, hq14⟩ | ⟨rfl, hq14⟩
                  · have l_14 : (0 : Int32).toInt = 0 := rfl
                    refine lv_if_eq (tgt := 322) hx hb dX10_goOn_270 (by decide) (fun _ => ?_) (fun c_ => absurd (by decide +kernel) c_)
                    refine lv_aload_n hx hb dX10_goOn_322 rfl (lv_at hl 0 rfl) ?_
                    refine lv_aload_n hx hb dX10_goOn_323 rfl (lv_at hl 0 rfl) ?_
                    refine k_get hC hK hP iX10 0 7 wf_X10_55 rfl (by decide) rfl rfl dX10_goOn_324 ?_
                    refine lv_aload_n hx hb dX10_goOn_327 rfl (lv_at hl 0 rfl) ?_
                    refine k_get hC hK hP iX10 0 6 wf_X10_58 rfl (by decide) rfl rfl dX10_goOn_328 ?_
                    refine lv_isub hx hb dX10_goOn_331 ?_
                    refine t_i (fun q => q.toInt = h11.toInt - h1.toInt) (sub_i (by show (-2147483648 : Int) ≤ h11.toInt - h1.toInt; omega) (by show h11.toInt - h1.toInt ≤ (2147483647 : Int); omega)) (fun z15 tz15 => ?_)
                    refine lv_iconst (v := 4) hx hb dX10_goOn_332 (by decide) ?_
                    refine lv_icmp_gt (tgt := 350) hx hb dX10_goOn_333 (by decide) (fun c16 => ?_) (fun c16 => ?_)
                    · have dc16 : 4 < z15.toInt := (fa_lt _ _).mp c16
                      refine lv_iconst (v := 1) hx hb dX10_goOn_350 (by decide) ?_
                      refine lv_goto (tgt := 355) hx hb dX10_goOn_351 (by decide) ?_
                      refine k_put hC hK hP hD hS iX10 tyX10_ok nmX10 0 8 wf_X10_65 rfl (by decide) rfl rfl rfl rfl (Nat.le_of_ble_eq_true rfl) dX10_goOn_355 (fun H locs hP hD hS => ?_)
                      have hP : va_P G cl [(a0, .inr (10, [.ref a1, .ref a2, .int v_m_2, .int v_m_3, .int v_m_4, .int v_m_5, .int h1, .int h11, .int 1, .int h12, .long w_m_10, .ref a3, .ref a4, .ref a5, .ref a6, .ref a7, .ref a8, .ref a9, .ref a10, .ref a11, .ref a12, .ref a13, .ref a14, .ref a15, .ref a16, .ref a17, .ref a18, .ref a19, .ref a20, .ref a21, .ref a22, .ref a23, .ref a24, .ref a25, .ref a26, .ref a27, .ref a28, .ref a29, .ref a30, .ref a31, .int 0, .int 1, .ref a32, .ref a33, .int v_m_44, .int v_m_45, .int v_m_46, .int v_m_47, .ref a34, .int v_m_49, .ref a35, .ref a36, .ref a37, .int v_m_53, .int v_m_54, .int v_m_55, .int v_m_56, .int v_m_57, .int v_m_58, .int v_m_59, .int v_m_60, .ref a38, .int v_m_62, .ref a39, .ref a40, .ref a41, .ref a42, .int v_m_67, .int v_m_68])), (a2, .inl (cB, 1300, .inl g_m_text))] H := hP
                      have hD : va_D A [(a0, .inr (10, [.ref a1, .ref a2, .int v_m_2, .int v_m_3, .int v_m_4, .int v_m_5, .int h1, .int h11, .int 1, .int h12, .long w_m_10, .ref a3, .ref a4, .ref a5, .ref a6, .ref a7, .ref a8, .ref a9, .ref a10, .ref a11, .ref a12, .ref a13, .ref a14, .ref a15, .ref a16, .ref a17, .ref a18, .ref a19, .ref a20, .ref a21, .ref a22, .ref a23, .ref a24, .ref a25, .ref a26, .ref a27, .ref a28, .ref a29, .ref a30, .ref a31, .int 0, .int 1, .ref a32, .ref a33, .int v_m_44, .int v_m_45, .int v_m_46, .int v_m_47, .ref a34, .int v_m_49, .ref a35, .ref a36, .ref a37, .int v_m_53, .int v_m_54, .int v_m_55, .int v_m_56, .int v_m_57, .int v_m_58, .int v_m_59, .int v_m_60, .ref a38, .int v_m_62, .ref a39, .ref a40, .ref a41, .ref a42, .int v_m_67, .int v_m_68])), (a2, .inl (cB, 1300, .inl g_m_text))] := hD
                      refine lv_goto (tgt := 376) hx hb dX10_goOn_358 (by decide) ?_
                      have l_l17 : (1 : Int32).toInt = 1 := rfl
                      rw [← hQm]
                      exact k_vret hC hr hlk hK hP hD hS (h1, h11, 1, h12, w_m_10) [0, 1] rfl (by decide) (show 0 ≤ h1.toInt ∧ h1.toInt ≤ 1300 ∧ 0 ≤ h11.toInt ∧ h11.toInt ≤ 1300 ∧ 0 ≤ (1 : Int32).toInt ∧ (1 : Int32).toInt ≤ 5 ∧ 0 ≤ h12.toInt ∧ h12.toInt ≤ 9999 ∧ (v_m_7.toInt ≤ h11.toInt) ∧ ((1 : Int32).toInt ≤ 5 * (h11.toInt - v_m_7.toInt)) ∧ (h11.toInt ≤ v_m_3.toInt) from by omega) (Nat.le_of_ble_eq_true rfl) (Nat.le_of_ble_eq_true rfl) dX10_goOn_376
                    · have dc16 : z15.toInt ≤ 4 := fa_nlt c16
                      refine lv_aload_n hx hb dX10_goOn_336 rfl (lv_at hl 0 rfl) ?_
                      refine lv_aload_n hx hb dX10_goOn_337 rfl (lv_at hl 0 rfl) ?_
                      refine k_get hC hK hP iX10 0 7 wf_X10_55 rfl (by decide) rfl rfl dX10_goOn_338 ?_
                      refine k_ci (wr := []) (k_rV hC hN hZ hS hA hK hP hD (c2_X10_sign l G cI cJ cB cZ a0 a1 a2 a3 a4 a5 a6 a7 a8 a9 a10 a11 a12 a13 a14 a15 a16 a17 a18 a19 a20 a21 a22 a23 a24 a25 a26 a27 a28 a29 a30 a31 a32 a33 a34 a35 a36 a37 a38 a39 a40 a41 a42 h11 v_m_2 v_m_3 v_m_4 v_m_5 h1 h11 v_m_8 h12 w_m_10 v_m_44 v_m_45 v_m_46 v_m_47 v_m_49 v_m_53 v_m_54 v_m_55 v_m_56 v_m_57 v_m_58 v_m_59 v_m_60 v_m_62 v_m_67 v_m_68 g_m_text (by omega) hT_g_m_text) [0, 1] rfl (by decide) mi_X10_sign in_X10_sign se_X10_sign wm_X10_61 10 0 rfl rfl rfl hl.1 rfl rfl (Nat.le_of_ble_eq_true rfl) ⟨(Nat.le_of_ble_eq_true rfl), (Nat.le_of_ble_eq_true rfl)⟩ dX10_goOn_341 ⟨(Nat.le_of_ble_eq_true rfl), (Nat.le_of_ble_eq_true rfl)⟩) hP hD hS hA [0, 1] [] rfl rfl (by decide) (by decide) (fun r18 u18 H locs hp hP hD hS => ?_)
                      have hp : (0 ≤ r18.toInt ∧ r18.toInt ≤ 255 ∧ (r18.toInt = (sgn g_m_text v_m_3 h11).toInt) ∧ (r18.toInt = 0 ∨ h11.toInt < v_m_3.toInt)) := hp
                      have hP : va_P G cl [(a0, .inr (10, [.ref a1, .ref a2, .int v_m_2, .int v_m_3, .int v_m_4, .int v_m_5, .int h1, .int h11, .int v_m_8, .int h12, .long w_m_10, .ref a3, .ref a4, .ref a5, .ref a6, .ref a7, .ref a8, .ref a9, .ref a10, .ref a11, .ref a12, .ref a13, .ref a14, .ref a15, .ref a16, .ref a17, .ref a18, .ref a19, .ref a20, .ref a21, .ref a22, .ref a23, .ref a24, .ref a25, .ref a26, .ref a27, .ref a28, .ref a29, .ref a30, .ref a31, .int 0, .int 1, .ref a32, .ref a33, .int v_m_44, .int v_m_45, .int v_m_46, .int v_m_47, .ref a34, .int v_m_49, .ref a35, .ref a36, .ref a37, .int v_m_53, .int v_m_54, .int v_m_55, .int v_m_56, .int v_m_57, .int v_m_58, .int v_m_59, .int v_m_60, .ref a38, .int v_m_62, .ref a39, .ref a40, .ref a41, .ref a42, .int v_m_67, .int v_m_68])), (a2, .inl (cB, 1300, .inl g_m_text))] H := hP
                      have hD : va_D A [(a0, .inr (10, [.ref a1, .ref a2, .int v_m_2, .int v_m_3, .int v_m_4, .int v_m_5, .int h1, .int h11, .int v_m_8, .int h12, .long w_m_10, .ref a3, .ref a4, .ref a5, .ref a6, .ref a7, .ref a8, .ref a9, .ref a10, .ref a11, .ref a12, .ref a13, .ref a14, .ref a15, .ref a16, .ref a17, .ref a18, .ref a19, .ref a20, .ref a21, .ref a22, .ref a23, .ref a24, .ref a25, .ref a26, .ref a27, .ref a28, .ref a29, .ref a30, .ref a31, .int 0, .int 1, .ref a32, .ref a33, .int v_m_44, .int v_m_45, .int v_m_46, .int v_m_47, .ref a34, .int v_m_49, .ref a35, .ref a36, .ref a37, .int v_m_53, .int v_m_54, .int v_m_55, .int v_m_56, .int v_m_57, .int v_m_58, .int v_m_59, .int v_m_60, .ref a38, .int v_m_62, .ref a39, .ref a40, .ref a41, .ref a42, .int v_m_67, .int v_m_68])), (a2, .inl (cB, 1300, .inl g_m_text))] := hD
                      have hq18 := hp
                      refine k_ci (wr := [(a0, .inr (10, [.ref a1, .ref a2, .int v_m_2, .int v_m_3, .int v_m_4, .int v_m_5, .int h1, .int h11, .int v_m_8, .int h12, .long w_m_10, .ref a3, .ref a4, .ref a5, .ref a6, .ref a7, .ref a8, .ref a9, .ref a10, .ref a11, .ref a12, .ref a13, .ref a14, .ref a15, .ref a16, .ref a17, .ref a18, .ref a19, .ref a20, .ref a21, .ref a22, .ref a23, .ref a24, .ref a25, .ref a26, .ref a27, .ref a28, .ref a29, .ref a30, .ref a31, .int 0, .int 1, .ref a32, .ref a33, .int v_m_44, .int v_m_45, .int v_m_46, .int v_m_47, .ref a34, .int v_m_49, .ref a35, .ref a36, .ref a37, .int v_m_53, .int v_m_54, .int v_m_55, .int v_m_56, .int v_m_57, .int v_m_58, .int v_m_59, .int v_m_60, .ref a38, .int v_m_62, .ref a39, .ref a40, .ref a41, .ref a42, .int v_m_67, .int v_m_68])), (a2, .inl (cB, 1300, .inl g_m_text))]) (k_rS hC hN hZ hS hA hK hP hD (c3_X10_isLetter l G cI cJ cB cZ r18) [] rfl (by decide) mi_X10_isLetter st_X10_isLetter wm_X10_68 hl.1 rfl rfl (Nat.le_of_ble_eq_true rfl) ⟨(Nat.le_of_ble_eq_true rfl), (Nat.le_of_ble_eq_true rfl)⟩ dX10_goOn_344 ⟨(Nat.le_of_ble_eq_true rfl), (Nat.le_of_ble_eq_true rfl)⟩) hP hD hS hA [] [0, 1] rfl rfl (by decide) (by decide) (fun r19 u19 H locs hp hP hD hS => ?_)
                      have hP : va_P G cl [(a0, .inr (10, [.ref a1, .ref a2, .int v_m_2, .int v_m_3, .int v_m_4, .int v_m_5, .int h1, .int h11, .int v_m_8, .int h12, .long w_m_10, .ref a3, .ref a4, .ref a5, .ref a6, .ref a7, .ref a8, .ref a9, .ref a10, .ref a11, .ref a12, .ref a13, .ref a14, .ref a15, .ref a16, .ref a17, .ref a18, .ref a19, .ref a20, .ref a21, .ref a22, .ref a23, .ref a24, .ref a25, .ref a26, .ref a27, .ref a28, .ref a29, .ref a30, .ref a31, .int 0, .int 1, .ref a32, .ref a33, .int v_m_44, .int v_m_45, .int v_m_46, .int v_m_47, .ref a34, .int v_m_49, .ref a35, .ref a36, .ref a37, .int v_m_53, .int v_m_54, .int v_m_55, .int v_m_56, .int v_m_57, .int v_m_58, .int v_m_59, .int v_m_60, .ref a38, .int v_m_62, .ref a39, .ref a40, .ref a41, .ref a42, .int v_m_67, .int v_m_68])), (a2, .inl (cB, 1300, .inl g_m_text))] H := hP
                      have hD : va_D A [(a0, .inr (10, [.ref a1, .ref a2, .int v_m_2, .int v_m_3, .int v_m_4, .int v_m_5, .int h1, .int h11, .int v_m_8, .int h12, .long w_m_10, .ref a3, .ref a4, .ref a5, .ref a6, .ref a7, .ref a8, .ref a9, .ref a10, .ref a11, .ref a12, .ref a13, .ref a14, .ref a15, .ref a16, .ref a17, .ref a18, .ref a19, .ref a20, .ref a21, .ref a22, .ref a23, .ref a24, .ref a25, .ref a26, .ref a27, .ref a28, .ref a29, .ref a30, .ref a31, .int 0, .int 1, .ref a32, .ref a33, .int v_m_44, .int v_m_45, .int v_m_46, .int v_m_47, .ref a34, .int v_m_49, .ref a35, .ref a36, .ref a37, .int v_m_53, .int v_m_54, .int v_m_55, .int v_m_56, .int v_m_57, .int v_m_58, .int v_m_59, .int v_m_60, .ref a38, .int v_m_62, .ref a39, .ref a40, .ref a41, .ref a42, .int v_m_67, .int v_m_68])), (a2, .inl (cB, 1300, .inl g_m_text))] := hD
                      rcases (show (r19 = 0 ∧ (True)) ∨ (r19 = 1 ∧ (97 ≤ r18.toInt ∧ r18.toInt ≤ 122)) from hp) with ⟨rfl, hq19⟩ | ⟨rfl, hq19⟩
                      · have l_19 : (0 : Int32).toInt = 0 := rfl
                        refine lv_if_eq (tgt := 354) hx hb dX10_goOn_347 (by decide) (fun _ => ?_) (fun c_ => absurd (by decide +kernel) c_)
                        refine lv_iconst (v := 4) hx hb dX10_goOn_354 (by decide) ?_
                        refine k_put hC hK hP hD hS iX10 tyX10_ok nmX10 0 8 wf_X10_65 rfl (by decide) rfl rfl rfl rfl (Nat.le_of_ble_eq_true rfl) dX10_goOn_355 (fun H locs hP hD hS => ?_)
                        have hP : va_P G cl [(a0, .inr (10, [.ref a1, .ref a2, .int v_m_2, .int v_m_3, .int v_m_4, .int v_m_5, .int h1, .int h11, .int 4, .int h12, .long w_m_10, .ref a3, .ref a4, .ref a5, .ref a6, .ref a7, .ref a8, .ref a9, .ref a10, .ref a11, .ref a12, .ref a13, .ref a14, .ref a15, .ref a16, .ref a17, .ref a18, .ref a19, .ref a20, .ref a21, .ref a22, .ref a23, .ref a24, .ref a25, .ref a26, .ref a27, .ref a28, .ref a29, .ref a30, .ref a31, .int 0, .int 1, .ref a32, .ref a33, .int v_m_44, .int v_m_45, .int v_m_46, .int v_m_47, .ref a34, .int v_m_49, .ref a35, .ref a36, .ref a37, .int v_m_53, .int v_m_54, .int v_m_55, .int v_m_56, .int v_m_57, .int v_m_58, .int v_m_59, .int v_m_60, .ref a38, .int v_m_62, .ref a39, .ref a40, .ref a41, .ref a42, .int v_m_67, .int v_m_68])), (a2, .inl (cB, 1300, .inl g_m_text))] H := hP
                        have hD : va_D A [(a0, .inr (10, [.ref a1, .ref a2, .int v_m_2, .int v_m_3, .int v_m_4, .int v_m_5, .int h1, .int h11, .int 4, .int h12, .long w_m_10, .ref a3, .ref a4, .ref a5, .ref a6, .ref a7, .ref a8, .ref a9, .ref a10, .ref a11, .ref a12, .ref a13, .ref a14, .ref a15, .ref a16, .ref a17, .ref a18, .ref a19, .ref a20, .ref a21, .ref a22, .ref a23, .ref a24, .ref a25, .ref a26, .ref a27, .ref a28, .ref a29, .ref a30, .ref a31, .int 0, .int 1, .ref a32, .ref a33, .int v_m_44, .int v_m_45, .int v_m_46, .int v_m_47, .ref a34, .int v_m_49, .ref a35, .ref a36, .ref a37, .int v_m_53, .int v_m_54, .int v_m_55, .int v_m_56, .int v_m_57, .int v_m_58, .int v_m_59, .int v_m_60, .ref a38, .int v_m_62, .ref a39, .ref a40, .ref a41, .ref a42, .int v_m_67, .int v_m_68])), (a2, .inl (cB, 1300, .inl g_m_text))] := hD
                        refine lv_goto (tgt := 376) hx hb dX10_goOn_358 (by decide) ?_
                        have l_l20 : (4 : Int32).toInt = 4 := rfl
                        rw [← hQm]
                        exact k_vret hC hr hlk hK hP hD hS (h1, h11, 4, h12, w_m_10) [0, 1] rfl (by decide) (show 0 ≤ h1.toInt ∧ h1.toInt ≤ 1300 ∧ 0 ≤ h11.toInt ∧ h11.toInt ≤ 1300 ∧ 0 ≤ (4 : Int32).toInt ∧ (4 : Int32).toInt ≤ 5 ∧ 0 ≤ h12.toInt ∧ h12.toInt ≤ 9999 ∧ (v_m_7.toInt ≤ h11.toInt) ∧ ((4 : Int32).toInt ≤ 5 * (h11.toInt - v_m_7.toInt)) ∧ (h11.toInt ≤ v_m_3.toInt) from by omega) (Nat.le_of_ble_eq_true rfl) (Nat.le_of_ble_eq_true rfl) dX10_goOn_376
                      · have l_19 : (1 : Int32).toInt = 1 := rfl
                        refine lv_if_eq (tgt := 354) hx hb dX10_goOn_347 (by decide) (fun c_ => absurd c_ (by decide +kernel)) (fun _ => ?_)
                        refine lv_iconst (v := 1) hx hb dX10_goOn_350 (by decide) ?_
                        refine lv_goto (tgt := 355) hx hb dX10_goOn_351 (by decide) ?_
                        refine k_put hC hK hP hD hS iX10 tyX10_ok nmX10 0 8 wf_X10_65 rfl (by decide) rfl rfl rfl rfl (Nat.le_of_ble_eq_true rfl) dX10_goOn_355 (fun H locs hP hD hS => ?_)
                        have hP : va_P G cl [(a0, .inr (10, [.ref a1, .ref a2, .int v_m_2, .int v_m_3, .int v_m_4, .int v_m_5, .int h1, .int h11, .int 1, .int h12, .long w_m_10, .ref a3, .ref a4, .ref a5, .ref a6, .ref a7, .ref a8, .ref a9, .ref a10, .ref a11, .ref a12, .ref a13, .ref a14, .ref a15, .ref a16, .ref a17, .ref a18, .ref a19, .ref a20, .ref a21, .ref a22, .ref a23, .ref a24, .ref a25, .ref a26, .ref a27, .ref a28, .ref a29, .ref a30, .ref a31, .int 0, .int 1, .ref a32, .ref a33, .int v_m_44, .int v_m_45, .int v_m_46, .int v_m_47, .ref a34, .int v_m_49, .ref a35, .ref a36, .ref a37, .int v_m_53, .int v_m_54, .int v_m_55, .int v_m_56, .int v_m_57, .int v_m_58, .int v_m_59, .int v_m_60, .ref a38, .int v_m_62, .ref a39, .ref a40, .ref a41, .ref a42, .int v_m_67, .int v_m_68])), (a2, .inl (cB, 1300, .inl g_m_text))] H := hP
                        have hD : va_D A [(a0, .inr (10, [.ref a1, .ref a2, .int v_m_2, .int v_m_3, .int v_m_4, .int v_m_5, .int h1, .int h11, .int 1, .int h12, .long w_m_10, .ref a3, .ref a4, .ref a5, .ref a6, .ref a7, .ref a8, .ref a9, .ref a10, .ref a11, .ref a12, .ref a13, .ref a14, .ref a15, .ref a16, .ref a17, .ref a18, .ref a19, .ref a20, .ref a21, .ref a22, .ref a23, .ref a24, .ref a25, .ref a26, .ref a27, .ref a28, .ref a29, .ref a30, .ref a31, .int 0, .int 1, .ref a32, .ref a33, .int v_m_44, .int v_m_45, .int v_m_46, .int v_m_47, .ref a34, .int v_m_49, .ref a35, .ref a36, .ref a37, .int v_m_53, .int v_m_54, .int v_m_55, .int v_m_56, .int v_m_57, .int v_m_58, .int v_m_59, .int v_m_60, .ref a38, .int v_m_62, .ref a39, .ref a40, .ref a41, .ref a42, .int v_m_67, .int v_m_68])), (a2, .inl (cB, 1300, .inl g_m_text))] := hD
                        refine lv_goto (tgt := 376) hx hb dX10_goOn_358 (by decide) ?_
                        have l_l21 : (1 : Int32).toInt = 1 := rfl
                        rw [← hQm]
                        exact k_vret hC hr hlk hK hP hD hS (h1, h11, 1, h12, w_m_10) [0, 1] rfl (by decide) (show 0 ≤ h1.toInt ∧ h1.toInt ≤ 1300 ∧ 0 ≤ h11.toInt ∧ h11.toInt ≤ 1300 ∧ 0 ≤ (1 : Int32).toInt ∧ (1 : Int32).toInt ≤ 5 ∧ 0 ≤ h12.toInt ∧ h12.toInt ≤ 9999 ∧ (v_m_7.toInt ≤ h11.toInt) ∧ ((1 : Int32).toInt ≤ 5 * (h11.toInt - v_m_7.toInt)) ∧ (h11.toInt ≤ v_m_3.toInt) from by omega) (Nat.le_of_ble_eq_true rfl) (Nat.le_of_ble_eq_true rfl) dX10_goOn_376
                  · have l_14 : (1 : Int32).toInt = 1 := rfl
                    refine lv_if_eq (tgt := 322) hx hb dX10_goOn_270 (by decide) (fun c_ => absurd c_ (by decide +kernel)) (fun _ => ?_)
                    refine lv_aload_n hx hb dX10_goOn_273 rfl (lv_at hl 0 rfl) ?_
                    refine k_get hC hK hP iX10 0 7 wf_X10_55 rfl (by decide) rfl rfl dX10_goOn_274 ?_
                    refine lv_aload_n hx hb dX10_goOn_277 rfl (lv_at hl 0 rfl) ?_
                    refine k_get hC hK hP iX10 0 6 wf_X10_58 rfl (by decide) rfl rfl dX10_goOn_278 ?_
                    refine lv_isub hx hb dX10_goOn_281 ?_
                    refine t_i (fun q => q.toInt = h11.toInt - h1.toInt) (sub_i (by show (-2147483648 : Int) ≤ h11.toInt - h1.toInt; omega) (by show h11.toInt - h1.toInt ≤ (2147483647 : Int); omega)) (fun z22 tz22 => ?_)
                    refine lv_iconst (v := 4) hx hb dX10_goOn_282 (by decide) ?_
                    refine lv_icmp_ge (tgt := 309) hx hb dX10_goOn_283 (by decide) (fun c23 => ?_) (fun c23 => ?_)
                    · have dc23 : 4 ≤ z22.toInt := (fa_le _ _).mp c23
                      have as24 : 0 ≤ h11.toInt ∧ h11.toInt ≤ 1299 := by omega
                      refine lv_aload_n hx hb dX10_goOn_309 rfl (lv_at hl 0 rfl) ?_
                      refine lv_dup hx hb dX10_goOn_310 rfl ?_
                      refine k_get hC hK hP iX10 0 7 wf_X10_55 rfl (by decide) rfl rfl dX10_goOn_311 ?_
                      refine lv_iconst (v := 1) hx hb dX10_goOn_314 (by decide) ?_
                      refine lv_iadd hx hb dX10_goOn_315 ?_
                      refine t_i (fun q => q.toInt = h11.toInt + 1) (add_i (by show (-2147483648 : Int) ≤ h11.toInt + 1; omega) (by show h11.toInt + 1 ≤ (2147483647 : Int); omega)) (fun z25 tz25 => ?_)
                      refine k_put hC hK hP hD hS iX10 tyX10_ok nmX10 0 7 wf_X10_55 rfl (by decide) rfl rfl rfl rfl (Nat.le_of_ble_eq_true rfl) dX10_goOn_316 (fun H locs hP hD hS => ?_)
                      have hP : va_P G cl [(a0, .inr (10, [.ref a1, .ref a2, .int v_m_2, .int v_m_3, .int v_m_4, .int v_m_5, .int h1, .int z25, .int v_m_8, .int h12, .long w_m_10, .ref a3, .ref a4, .ref a5, .ref a6, .ref a7, .ref a8, .ref a9, .ref a10, .ref a11, .ref a12, .ref a13, .ref a14, .ref a15, .ref a16, .ref a17, .ref a18, .ref a19, .ref a20, .ref a21, .ref a22, .ref a23, .ref a24, .ref a25, .ref a26, .ref a27, .ref a28, .ref a29, .ref a30, .ref a31, .int 0, .int 1, .ref a32, .ref a33, .int v_m_44, .int v_m_45, .int v_m_46, .int v_m_47, .ref a34, .int v_m_49, .ref a35, .ref a36, .ref a37, .int v_m_53, .int v_m_54, .int v_m_55, .int v_m_56, .int v_m_57, .int v_m_58, .int v_m_59, .int v_m_60, .ref a38, .int v_m_62, .ref a39, .ref a40, .ref a41, .ref a42, .int v_m_67, .int v_m_68])), (a2, .inl (cB, 1300, .inl g_m_text))] H := hP
                      have hD : va_D A [(a0, .inr (10, [.ref a1, .ref a2, .int v_m_2, .int v_m_3, .int v_m_4, .int v_m_5, .int h1, .int z25, .int v_m_8, .int h12, .long w_m_10, .ref a3, .ref a4, .ref a5, .ref a6, .ref a7, .ref a8, .ref a9, .ref a10, .ref a11, .ref a12, .ref a13, .ref a14, .ref a15, .ref a16, .ref a17, .ref a18, .ref a19, .ref a20, .ref a21, .ref a22, .ref a23, .ref a24, .ref a25, .ref a26, .ref a27, .ref a28, .ref a29, .ref a30, .ref a31, .int 0, .int 1, .ref a32, .ref a33, .int v_m_44, .int v_m_45, .int v_m_46, .int v_m_47, .ref a34, .int v_m_49, .ref a35, .ref a36, .ref a37, .int v_m_53, .int v_m_54, .int v_m_55, .int v_m_56, .int v_m_57, .int v_m_58, .int v_m_59, .int v_m_60, .ref a38, .int v_m_62, .ref a39, .ref a40, .ref a41, .ref a42, .int v_m_67, .int v_m_68])), (a2, .inl (cB, 1300, .inl g_m_text))] := hD
                      refine lv_goto (tgt := 259) hx hb dX10_goOn_319 (by decide) ?_
                      exact ih_259  z25 h12 H locs ls (by omega) (by omega) (hP.subm [0, 1] rfl) (hD.sub [0, 1] (by decide) rfl) hS (lv_sub hl [0, 1] rfl)
                    · have dc23 : z22.toInt < 4 := fa_nle c23
                      have as26 : 0 ≤ h12.toInt ∧ h12.toInt ≤ 999 := by omega
                      refine lv_aload_n hx hb dX10_goOn_286 rfl (lv_at hl 0 rfl) ?_
                      refine lv_bipush (v := 10) hx hb dX10_goOn_287 (by decide) ?_
                      refine lv_aload_n hx hb dX10_goOn_289 rfl (lv_at hl 0 rfl) ?_
                      refine k_get hC hK hP iX10 0 9 wf_X10_83 rfl (by decide) rfl rfl dX10_goOn_290 ?_
                      refine lv_imul hx hb dX10_goOn_293 ?_
                      refine t_i (fun q => q.toInt = 10 * h12.toInt) (mul_i (by show (-2147483648 : Int) ≤ 10 * h12.toInt; omega) (by show 10 * h12.toInt ≤ (2147483647 : Int); omega)) (fun z27 tz27 => ?_)
                      refine lv_aload_n hx hb dX10_goOn_294 rfl (lv_at hl 0 rfl) ?_
                      refine lv_aload_n hx hb dX10_goOn_295 rfl (lv_at hl 0 rfl) ?_
                      refine k_get hC hK hP iX10 0 7 wf_X10_55 rfl (by decide) rfl rfl dX10_goOn_296 ?_
                      refine k_ci (wr := []) (k_rV hC hN hZ hS hA hK hP hD (c2_X10_sign l G cI cJ cB cZ a0 a1 a2 a3 a4 a5 a6 a7 a8 a9 a10 a11 a12 a13 a14 a15 a16 a17 a18 a19 a20 a21 a22 a23 a24 a25 a26 a27 a28 a29 a30 a31 a32 a33 a34 a35 a36 a37 a38 a39 a40 a41 a42 h11 v_m_2 v_m_3 v_m_4 v_m_5 h1 h11 v_m_8 h12 w_m_10 v_m_44 v_m_45 v_m_46 v_m_47 v_m_49 v_m_53 v_m_54 v_m_55 v_m_56 v_m_57 v_m_58 v_m_59 v_m_60 v_m_62 v_m_67 v_m_68 g_m_text (by omega) hT_g_m_text) [0, 1] rfl (by decide) mi_X10_sign in_X10_sign se_X10_sign wm_X10_61 10 0 rfl rfl rfl hl.1 rfl rfl (Nat.le_of_ble_eq_true rfl) ⟨(Nat.le_of_ble_eq_true rfl), (Nat.le_of_ble_eq_true rfl)⟩ dX10_goOn_299 ⟨(Nat.le_of_ble_eq_true rfl), (Nat.le_of_ble_eq_true rfl)⟩) hP hD hS hA [0, 1] [] rfl rfl (by decide) (by decide) (fun r28 u28 H locs hp hP hD hS => ?_)
                      have hp : (0 ≤ r28.toInt ∧ r28.toInt ≤ 255 ∧ (r28.toInt = (sgn g_m_text v_m_3 h11).toInt) ∧ (r28.toInt = 0 ∨ h11.toInt < v_m_3.toInt)) := hp
                      have hP : va_P G cl [(a0, .inr (10, [.ref a1, .ref a2, .int v_m_2, .int v_m_3, .int v_m_4, .int v_m_5, .int h1, .int h11, .int v_m_8, .int h12, .long w_m_10, .ref a3, .ref a4, .ref a5, .ref a6, .ref a7, .ref a8, .ref a9, .ref a10, .ref a11, .ref a12, .ref a13, .ref a14, .ref a15, .ref a16, .ref a17, .ref a18, .ref a19, .ref a20, .ref a21, .ref a22, .ref a23, .ref a24, .ref a25, .ref a26, .ref a27, .ref a28, .ref a29, .ref a30, .ref a31, .int 0, .int 1, .ref a32, .ref a33, .int v_m_44, .int v_m_45, .int v_m_46, .int v_m_47, .ref a34, .int v_m_49, .ref a35, .ref a36, .ref a37, .int v_m_53, .int v_m_54, .int v_m_55, .int v_m_56, .int v_m_57, .int v_m_58, .int v_m_59, .int v_m_60, .ref a38, .int v_m_62, .ref a39, .ref a40, .ref a41, .ref a42, .int v_m_67, .int v_m_68])), (a2, .inl (cB, 1300, .inl g_m_text))] H := hP
                      have hD : va_D A [(a0, .inr (10, [.ref a1, .ref a2, .int v_m_2, .int v_m_3, .int v_m_4, .int v_m_5, .int h1, .int h11, .int v_m_8, .int h12, .long w_m_10, .ref a3, .ref a4, .ref a5, .ref a6, .ref a7, .ref a8, .ref a9, .ref a10, .ref a11, .ref a12, .ref a13, .ref a14, .ref a15, .ref a16, .ref a17, .ref a18, .ref a19, .ref a20, .ref a21, .ref a22, .ref a23, .ref a24, .ref a25, .ref a26, .ref a27, .ref a28, .ref a29, .ref a30, .ref a31, .int 0, .int 1, .ref a32, .ref a33, .int v_m_44, .int v_m_45, .int v_m_46, .int v_m_47, .ref a34, .int v_m_49, .ref a35, .ref a36, .ref a37, .int v_m_53, .int v_m_54, .int v_m_55, .int v_m_56, .int v_m_57, .int v_m_58, .int v_m_59, .int v_m_60, .ref a38, .int v_m_62, .ref a39, .ref a40, .ref a41, .ref a42, .int v_m_67, .int v_m_68])), (a2, .inl (cB, 1300, .inl g_m_text))] := hD
                      have hq28 := hp
                      have as29 : 48 ≤ r28.toInt ∧ r28.toInt ≤ 57 := by omega
                      refine lv_iadd hx hb dX10_goOn_302 ?_
                      refine t_i (fun q => q.toInt = z27.toInt + r28.toInt) (add_i (by show (-2147483648 : Int) ≤ z27.toInt + r28.toInt; omega) (by show z27.toInt + r28.toInt ≤ (2147483647 : Int); omega)) (fun z30 tz30 => ?_)
                      refine lv_bipush (v := 48) hx hb dX10_goOn_303 (by decide) ?_
                      refine lv_isub hx hb dX10_goOn_305 ?_
                      refine t_i (fun q => q.toInt = z30.toInt - 48) (sub_i (by show (-2147483648 : Int) ≤ z30.toInt - 48; omega) (by show z30.toInt - 48 ≤ (2147483647 : Int); omega)) (fun z31 tz31 => ?_)
                      refine k_put hC hK hP hD hS iX10 tyX10_ok nmX10 0 9 wf_X10_83 rfl (by decide) rfl rfl rfl rfl (Nat.le_of_ble_eq_true rfl) dX10_goOn_306 (fun H locs hP hD hS => ?_)
                      have hP : va_P G cl [(a0, .inr (10, [.ref a1, .ref a2, .int v_m_2, .int v_m_3, .int v_m_4, .int v_m_5, .int h1, .int h11, .int v_m_8, .int z31, .long w_m_10, .ref a3, .ref a4, .ref a5, .ref a6, .ref a7, .ref a8, .ref a9, .ref a10, .ref a11, .ref a12, .ref a13, .ref a14, .ref a15, .ref a16, .ref a17, .ref a18, .ref a19, .ref a20, .ref a21, .ref a22, .ref a23, .ref a24, .ref a25, .ref a26, .ref a27, .ref a28, .ref a29, .ref a30, .ref a31, .int 0, .int 1, .ref a32, .ref a33, .int v_m_44, .int v_m_45, .int v_m_46, .int v_m_47, .ref a34, .int v_m_49, .ref a35, .ref a36, .ref a37, .int v_m_53, .int v_m_54, .int v_m_55, .int v_m_56, .int v_m_57, .int v_m_58, .int v_m_59, .int v_m_60, .ref a38, .int v_m_62, .ref a39, .ref a40, .ref a41, .ref a42, .int v_m_67, .int v_m_68])), (a2, .inl (cB, 1300, .inl g_m_text))] H := hP
                      have hD : va_D A [(a0, .inr (10, [.ref a1, .ref a2, .int v_m_2, .int v_m_3, .int v_m_4, .int v_m_5, .int h1, .int h11, .int v_m_8, .int z31, .long w_m_10, .ref a3, .ref a4, .ref a5, .ref a6, .ref a7, .ref a8, .ref a9, .ref a10, .ref a11, .ref a12, .ref a13, .ref a14, .ref a15, .ref a16, .ref a17, .ref a18, .ref a19, .ref a20, .ref a21, .ref a22, .ref a23, .ref a24, .ref a25, .ref a26, .ref a27, .ref a28, .ref a29, .ref a30, .ref a31, .int 0, .int 1, .ref a32, .ref a33, .int v_m_44, .int v_m_45, .int v_m_46, .int v_m_47, .ref a34, .int v_m_49, .ref a35, .ref a36, .ref a37, .int v_m_53, .int v_m_54, .int v_m_55, .int v_m_56, .int v_m_57, .int v_m_58, .int v_m_59, .int v_m_60, .ref a38, .int v_m_62, .ref a39, .ref a40, .ref a41, .ref a42, .int v_m_67, .int v_m_68])), (a2, .inl (cB, 1300, .inl g_m_text))] := hD
                      have as32 : 0 ≤ h11.toInt ∧ h11.toInt ≤ 1299 := by omega
                      refine lv_aload_n hx hb dX10_goOn_309 rfl (lv_at hl 0 rfl) ?_
                      refine lv_dup hx hb dX10_goOn_310 rfl ?_
                      refine k_get hC hK hP iX10 0 7 wf_X10_55 rfl (by decide) rfl rfl dX10_goOn_311 ?_
                      refine lv_iconst (v := 1) hx hb dX10_goOn_314 (by decide) ?_
                      refine lv_iadd hx hb dX10_goOn_315 ?_
                      refine t_i (fun q => q.toInt = h11.toInt + 1) (add_i (by show (-2147483648 : Int) ≤ h11.toInt + 1; omega) (by show h11.toInt + 1 ≤ (2147483647 : Int); omega)) (fun z33 tz33 => ?_)
                      refine k_put hC hK hP hD hS iX10 tyX10_ok nmX10 0 7 wf_X10_55 rfl (by decide) rfl rfl rfl rfl (Nat.le_of_ble_eq_true rfl) dX10_goOn_316 (fun H locs hP hD hS => ?_)
                      have hP : va_P G cl [(a0, .inr (10, [.ref a1, .ref a2, .int v_m_2, .int v_m_3, .int v_m_4, .int v_m_5, .int h1, .int z33, .int v_m_8, .int z31, .long w_m_10, .ref a3, .ref a4, .ref a5, .ref a6, .ref a7, .ref a8, .ref a9, .ref a10, .ref a11, .ref a12, .ref a13, .ref a14, .ref a15, .ref a16, .ref a17, .ref a18, .ref a19, .ref a20, .ref a21, .ref a22, .ref a23, .ref a24, .ref a25, .ref a26, .ref a27, .ref a28, .ref a29, .ref a30, .ref a31, .int 0, .int 1, .ref a32, .ref a33, .int v_m_44, .int v_m_45, .int v_m_46, .int v_m_47, .ref a34, .int v_m_49, .ref a35, .ref a36, .ref a37, .int v_m_53, .int v_m_54, .int v_m_55, .int v_m_56, .int v_m_57, .int v_m_58, .int v_m_59, .int v_m_60, .ref a38, .int v_m_62, .ref a39, .ref a40, .ref a41, .ref a42, .int v_m_67, .int v_m_68])), (a2, .inl (cB, 1300, .inl g_m_text))] H := hP
                      have hD : va_D A [(a0, .inr (10, [.ref a1, .ref a2, .int v_m_2, .int v_m_3, .int v_m_4, .int v_m_5, .int h1, .int z33, .int v_m_8, .int z31, .long w_m_10, .ref a3, .ref a4, .ref a5, .ref a6, .ref a7, .ref a8, .ref a9, .ref a10, .ref a11, .ref a12, .ref a13, .ref a14, .ref a15, .ref a16, .ref a17, .ref a18, .ref a19, .ref a20, .ref a21, .ref a22, .ref a23, .ref a24, .ref a25, .ref a26, .ref a27, .ref a28, .ref a29, .ref a30, .ref a31, .int 0, .int 1, .ref a32, .ref a33, .int v_m_44, .int v_m_45, .int v_m_46, .int v_m_47, .ref a34, .int v_m_49, .ref a35, .ref a36, .ref a37, .int v_m_53, .int v_m_54, .int v_m_55, .int v_m_56, .int v_m_57, .int v_m_58, .int v_m_59, .int v_m_60, .ref a38, .int v_m_62, .ref a39, .ref a40, .ref a41, .ref a42, .int v_m_67, .int v_m_68])), (a2, .inl (cB, 1300, .inl g_m_text))] := hD
                      refine lv_goto (tgt := 259) hx hb dX10_goOn_319 (by decide) ?_
                      exact ih_259  z33 z31 H locs ls (by omega) (by omega) (hP.subm [0, 1] rfl) (hD.sub [0, 1] (by decide) rfl) hS (lv_sub hl [0, 1] rfl)
              have l_l34 : (0 : Int32).toInt = 0 := rfl
              exact L_259 1301 h1 0 H locs ls (by omega) (by omega) (hP.subm [0, 1] rfl) (hD.sub [0, 1] (by decide) rfl) hS (lv_sub hl [1, 0] rfl)
          · have l_6 : (1 : Int32).toInt = 1 := rfl
            refine lv_if_eq (tgt := 239) hx hb dX10_goOn_116 (by decide) (fun c_ => absurd c_ (by decide +kernel)) (fun _ => ?_)
            have L_119 : ∀ (n : Nat) (h35 : Int32) (H : Heap) (locs : List Loc) (ls : Array Slot), (1 ≤ h35.toInt ∧ h35.toInt ≤ 1300 ∧ (h1.toInt + 1 ≤ h35.toInt) ∧ (h35.toInt ≤ v_m_3.toInt)) → 1300 - h35.toInt < (n : Int) → va_P G cl [(a0, .inr (10, [.ref a1, .ref a2, .int v_m_2, .int v_m_3, .int v_m_4, .int v_m_5, .int h1, .int h35, .int v_m_8, .int v_m_9, .long w_m_10, .ref a3, .ref a4, .ref a5, .ref a6, .ref a7, .ref a8, .ref a9, .ref a10, .ref a11, .ref a12, .ref a13, .ref a14, .ref a15, .ref a16, .ref a17, .ref a18, .ref a19, .ref a20, .ref a21, .ref a22, .ref a23, .ref a24, .ref a25, .ref a26, .ref a27, .ref a28, .ref a29, .ref a30, .ref a31, .int 0, .int 1, .ref a32, .ref a33, .int v_m_44, .int v_m_45, .int v_m_46, .int v_m_47, .ref a34, .int v_m_49, .ref a35, .ref a36, .ref a37, .int v_m_53, .int v_m_54, .int v_m_55, .int v_m_56, .int v_m_57, .int v_m_58, .int v_m_59, .int v_m_60, .ref a38, .int v_m_62, .ref a39, .ref a40, .ref a41, .ref a42, .int v_m_67, .int v_m_68])), (a2, .inl (cB, 1300, .inl g_m_text))] H → va_D A [(a0, .inr (10, [.ref a1, .ref a2, .int v_m_2, .int v_m_3, .int v_m_4, .int v_m_5, .int h1, .int h35, .int v_m_8, .int v_m_9, .long w_m_10, .ref a3, .ref a4, .ref a5, .ref a6, .ref a7, .ref a8, .ref a9, .ref a10, .ref a11, .ref a12, .ref a13, .ref a14, .ref a15, .ref a16, .ref a17, .ref a18, .ref a19, .ref a20, .ref a21, .ref a22, .ref a23, .ref a24, .ref a25, .ref a26, .ref a27, .ref a28, .ref a29, .ref a30, .ref a31, .int 0, .int 1, .ref a32, .ref a33, .int v_m_44, .int v_m_45, .int v_m_46, .int v_m_47, .ref a34, .int v_m_49, .ref a35, .ref a36, .ref a37, .int v_m_53, .int v_m_54, .int v_m_55, .int v_m_56, .int v_m_57, .int v_m_58, .int v_m_59, .int v_m_60, .ref a38, .int v_m_62, .ref a39, .ref a40, .ref a41, .ref a42, .int v_m_67, .int v_m_68])), (a2, .inl (cB, 1300, .inl g_m_text))] → va_S A s.heap H locs → lv_has ls 3 [(0, .ref a0), (1, .int r3)] → W p l e ({ frames := 1, cells := 0, slots := 0, locals := 22 } : Room) s m args below meth c H locs 0 0 Qm (F0 m 119 ls []) := by
              intro n
              induction n with
              | zero => intro h35 H locs ls hv hm; omega
              | succ n ih_119 =>
                intro h35 H locs ls hv hm hP hD hS hl
                refine lv_aload_n hx hb dX10_goOn_119 rfl (lv_at hl 0 rfl) ?_
                refine lv_aload_n hx hb dX10_goOn_120 rfl (lv_at hl 0 rfl) ?_
                refine k_get hC hK hP iX10 0 7 wf_X10_55 rfl (by decide) rfl rfl dX10_goOn_121 ?_
                refine k_ci (wr := []) (k_rV hC hN hZ hS hA hK hP hD (c2_X10_sign l G cI cJ cB cZ a0 a1 a2 a3 a4 a5 a6 a7 a8 a9 a10 a11 a12 a13 a14 a15 a16 a17 a18 a19 a20 a21 a22 a23 a24 a25 a26 a27 a28 a29 a30 a31 a32 a33 a34 a35 a36 a37 a38 a39 a40 a41 a42 h35 v_m_2 v_m_3 v_m_4 v_m_5 h1 h35 v_m_8 v_m_9 w_m_10 v_m_44 v_m_45 v_m_46 v_m_47 v_m_49 v_m_53 v_m_54 v_m_55 v_m_56 v_m_57 v_m_58 v_m_59 v_m_60 v_m_62 v_m_67 v_m_68 g_m_text (by omega) hT_g_m_text) [0, 1] rfl (by decide) mi_X10_sign in_X10_sign se_X10_sign wm_X10_61 10 0 rfl rfl rfl hl.1 rfl rfl (Nat.le_of_ble_eq_true rfl) ⟨(Nat.le_of_ble_eq_true rfl), (Nat.le_of_ble_eq_true rfl)⟩ dX10_goOn_124 ⟨(Nat.le_of_ble_eq_true rfl), (Nat.le_of_ble_eq_true rfl)⟩) hP hD hS hA [0, 1] [] rfl rfl (by decide) (by decide) (fun r36 u36 H locs hp hP hD hS => ?_)
                have hp : (0 ≤ r36.toInt ∧ r36.toInt ≤ 255 ∧ (r36.toInt = (sgn g_m_text v_m_3 h35).toInt) ∧ (r36.toInt = 0 ∨ h35.toInt < v_m_3.toInt)) := hp
                have hP : va_P G cl [(a0, .inr (10, [.ref a1, .ref a2, .int v_m_2, .int v_m_3, .int v_m_4, .int v_m_5, .int h1, .int h35, .int v_m_8, .int v_m_9, .long w_m_10, .ref a3, .ref a4, .ref a5, .ref a6, .ref a7, .ref a8, .ref a9, .ref a10, .ref a11, .ref a12, .ref a13, .ref a14, .ref a15, .ref a16, .ref a17, .ref a18, .ref a19, .ref a20, .ref a21, .ref a22, .ref a23, .ref a24, .ref a25, .ref a26, .ref a27, .ref a28, .ref a29, .ref a30, .ref a31, .int 0, .int 1, .ref a32, .ref a33, .int v_m_44, .int v_m_45, .int v_m_46, .int v_m_47, .ref a34, .int v_m_49, .ref a35, .ref a36, .ref a37, .int v_m_53, .int v_m_54, .int v_m_55, .int v_m_56, .int v_m_57, .int v_m_58, .int v_m_59, .int v_m_60, .ref a38, .int v_m_62, .ref a39, .ref a40, .ref a41, .ref a42, .int v_m_67, .int v_m_68])), (a2, .inl (cB, 1300, .inl g_m_text))] H := hP
                have hD : va_D A [(a0, .inr (10, [.ref a1, .ref a2, .int v_m_2, .int v_m_3, .int v_m_4, .int v_m_5, .int h1, .int h35, .int v_m_8, .int v_m_9, .long w_m_10, .ref a3, .ref a4, .ref a5, .ref a6, .ref a7, .ref a8, .ref a9, .ref a10, .ref a11, .ref a12, .ref a13, .ref a14, .ref a15, .ref a16, .ref a17, .ref a18, .ref a19, .ref a20, .ref a21, .ref a22, .ref a23, .ref a24, .ref a25, .ref a26, .ref a27, .ref a28, .ref a29, .ref a30, .ref a31, .int 0, .int 1, .ref a32, .ref a33, .int v_m_44, .int v_m_45, .int v_m_46, .int v_m_47, .ref a34, .int v_m_49, .ref a35, .ref a36, .ref a37, .int v_m_53, .int v_m_54, .int v_m_55, .int v_m_56, .int v_m_57, .int v_m_58, .int v_m_59, .int v_m_60, .ref a38, .int v_m_62, .ref a39, .ref a40, .ref a41, .ref a42, .int v_m_67, .int v_m_68])), (a2, .inl (cB, 1300, .inl g_m_text))] := hD
                have hq36 := hp
                refine k_ci (wr := [(a0, .inr (10, [.ref a1, .ref a2, .int v_m_2, .int v_m_3, .int v_m_4, .int v_m_5, .int h1, .int h35, .int v_m_8, .int v_m_9, .long w_m_10, .ref a3, .ref a4, .ref a5, .ref a6, .ref a7, .ref a8, .ref a9, .ref a10, .ref a11, .ref a12, .ref a13, .ref a14, .ref a15, .ref a16, .ref a17, .ref a18, .ref a19, .ref a20, .ref a21, .ref a22, .ref a23, .ref a24, .ref a25, .ref a26, .ref a27, .ref a28, .ref a29, .ref a30, .ref a31, .int 0, .int 1, .ref a32, .ref a33, .int v_m_44, .int v_m_45, .int v_m_46, .int v_m_47, .ref a34, .int v_m_49, .ref a35, .ref a36, .ref a37, .int v_m_53, .int v_m_54, .int v_m_55, .int v_m_56, .int v_m_57, .int v_m_58, .int v_m_59, .int v_m_60, .ref a38, .int v_m_62, .ref a39, .ref a40, .ref a41, .ref a42, .int v_m_67, .int v_m_68])), (a2, .inl (cB, 1300, .inl g_m_text))]) (k_rS hC hN hZ hS hA hK hP hD (c3_X10_isLetter l G cI cJ cB cZ r36) [] rfl (by decide) mi_X10_isLetter st_X10_isLetter wm_X10_68 hl.1 rfl rfl (Nat.le_of_ble_eq_true rfl) ⟨(Nat.le_of_ble_eq_true rfl), (Nat.le_of_ble_eq_true rfl)⟩ dX10_goOn_127 ⟨(Nat.le_of_ble_eq_true rfl), (Nat.le_of_ble_eq_true rfl)⟩) hP hD hS hA [] [0, 1] rfl rfl (by decide) (by decide) (fun r37 u37 H locs hp hP hD hS => ?_)
                have hP : va_P G cl [(a0, .inr (10, [.ref a1, .ref a2, .int v_m_2, .int v_m_3, .int v_m_4, .int v_m_5, .int h1, .int h35, .int v_m_8, .int v_m_9, .long w_m_10, .ref a3, .ref a4, .ref a5, .ref a6, .ref a7, .ref a8, .ref a9, .ref a10, .ref a11, .ref a12, .ref a13, .ref a14, .ref a15, .ref a16, .ref a17, .ref a18, .ref a19, .ref a20, .ref a21, .ref a22, .ref a23, .ref a24, .ref a25, .ref a26, .ref a27, .ref a28, .ref a29, .ref a30, .ref a31, .int 0, .int 1, .ref a32, .ref a33, .int v_m_44, .int v_m_45, .int v_m_46, .int v_m_47, .ref a34, .int v_m_49, .ref a35, .ref a36, .ref a37, .int v_m_53, .int v_m_54, .int v_m_55, .int v_m_56, .int v_m_57, .int v_m_58, .int v_m_59, .int v_m_60, .ref a38, .int v_m_62, .ref a39, .ref a40, .ref a41, .ref a42, .int v_m_67, .int v_m_68])), (a2, .inl (cB, 1300, .inl g_m_text))] H := hP
                have hD : va_D A [(a0, .inr (10, [.ref a1, .ref a2, .int v_m_2, .int v_m_3, .int v_m_4, .int v_m_5, .int h1, .int h35, .int v_m_8, .int v_m_9, .long w_m_10, .ref a3, .ref a4, .ref a5, .ref a6, .ref a7, .ref a8, .ref a9, .ref a10, .ref a11, .ref a12, .ref a13, .ref a14, .ref a15, .ref a16, .ref a17, .ref a18, .ref a19, .ref a20, .ref a21, .ref a22, .ref a23, .ref a24, .ref a25, .ref a26, .ref a27, .ref a28, .ref a29, .ref a30, .ref a31, .int 0, .int 1, .ref a32, .ref a33, .int v_m_44, .int v_m_45, .int v_m_46, .int v_m_47, .ref a34, .int v_m_49, .ref a35, .ref a36, .ref a37, .int v_m_53, .int v_m_54, .int v_m_55, .int v_m_56, .int v_m_57, .int v_m_58, .int v_m_59, .int v_m_60, .ref a38, .int v_m_62, .ref a39, .ref a40, .ref a41, .ref a42, .int v_m_67, .int v_m_68])), (a2, .inl (cB, 1300, .inl g_m_text))] := hD
                rcases (show (r37 = 0 ∧ (True)) ∨ (r37 = 1 ∧ (97 ≤ r36.toInt ∧ r36.toInt ≤ 122)) from hp) with ⟨rfl, hq37⟩ | ⟨rfl, hq37⟩
                · have l_37 : (0 : Int32).toInt = 0 := rfl
                  refine lv_if_eq (tgt := 146) hx hb dX10_goOn_130 (by decide) (fun _ => ?_) (fun c_ => absurd (by decide +kernel) c_)
                  refine lv_aload_n hx hb dX10_goOn_146 rfl (lv_at hl 0 rfl) ?_
                  refine lv_lconst (v := 0) hx hb dX10_goOn_147 (by decide) ?_
                  refine k_put hC hK hP hD hS iX10 tyX10_ok nmX10 0 10 wf_X10_72 rfl (by decide) rfl rfl rfl rfl (Nat.le_of_ble_eq_true rfl) dX10_goOn_148 (fun H locs hP hD hS => ?_)
                  have hP : va_P G cl [(a0, .inr (10, [.ref a1, .ref a2, .int v_m_2, .int v_m_3, .int v_m_4, .int v_m_5, .int h1, .int h35, .int v_m_8, .int v_m_9, .long 0, .ref a3, .ref a4, .ref a5, .ref a6, .ref a7, .ref a8, .ref a9, .ref a10, .ref a11, .ref a12, .ref a13, .ref a14, .ref a15, .ref a16, .ref a17, .ref a18, .ref a19, .ref a20, .ref a21, .ref a22, .ref a23, .ref a24, .ref a25, .ref a26, .ref a27, .ref a28, .ref a29, .ref a30, .ref a31, .int 0, .int 1, .ref a32, .ref a33, .int v_m_44, .int v_m_45, .int v_m_46, .int v_m_47, .ref a34, .int v_m_49, .ref a35, .ref a36, .ref a37, .int v_m_53, .int v_m_54, .int v_m_55, .int v_m_56, .int v_m_57, .int v_m_58, .int v_m_59, .int v_m_60, .ref a38, .int v_m_62, .ref a39, .ref a40, .ref a41, .ref a42, .int v_m_67, .int v_m_68])), (a2, .inl (cB, 1300, .inl g_m_text))] H := hP
                  have hD : va_D A [(a0, .inr (10, [.ref a1, .ref a2, .int v_m_2, .int v_m_3, .int v_m_4, .int v_m_5, .int h1, .int h35, .int v_m_8, .int v_m_9, .long 0, .ref a3, .ref a4, .ref a5, .ref a6, .ref a7, .ref a8, .ref a9, .ref a10, .ref a11, .ref a12, .ref a13, .ref a14, .ref a15, .ref a16, .ref a17, .ref a18, .ref a19, .ref a20, .ref a21, .ref a22, .ref a23, .ref a24, .ref a25, .ref a26, .ref a27, .ref a28, .ref a29, .ref a30, .ref a31, .int 0, .int 1, .ref a32, .ref a33, .int v_m_44, .int v_m_45, .int v_m_46, .int v_m_47, .ref a34, .int v_m_49, .ref a35, .ref a36, .ref a37, .int v_m_53, .int v_m_54, .int v_m_55, .int v_m_56, .int v_m_57, .int v_m_58, .int v_m_59, .int v_m_60, .ref a38, .int v_m_62, .ref a39, .ref a40, .ref a41, .ref a42, .int v_m_67, .int v_m_68])), (a2, .inl (cB, 1300, .inl g_m_text))] := hD
                  refine lv_aload_n hx hb dX10_goOn_151 rfl (lv_at hl 0 rfl) ?_
                  refine k_get hC hK hP iX10 0 6 wf_X10_58 rfl (by decide) rfl rfl dX10_goOn_152 ?_
                  refine lv_istore_n (lv' := [(2, .int h1), (0, .ref a0), (1, .int r3)]) hx hb dX10_goOn_155 rfl hl (by decide) rfl (fun ls hl => ?_)
                  have L_156 : ∀ (n : Nat) (x38 : Int32) (y39 : Int64) (H : Heap) (locs : List Loc) (ls : Array Slot), (0 ≤ x38.toInt ∧ x38.toInt ≤ 1300) → 1300 - x38.toInt < (n : Int) → va_P G cl [(a0, .inr (10, [.ref a1, .ref a2, .int v_m_2, .int v_m_3, .int v_m_4, .int v_m_5, .int h1, .int h35, .int v_m_8, .int v_m_9, .long y39, .ref a3, .ref a4, .ref a5, .ref a6, .ref a7, .ref a8, .ref a9, .ref a10, .ref a11, .ref a12, .ref a13, .ref a14, .ref a15, .ref a16, .ref a17, .ref a18, .ref a19, .ref a20, .ref a21, .ref a22, .ref a23, .ref a24, .ref a25, .ref a26, .ref a27, .ref a28, .ref a29, .ref a30, .ref a31, .int 0, .int 1, .ref a32, .ref a33, .int v_m_44, .int v_m_45, .int v_m_46, .int v_m_47, .ref a34, .int v_m_49, .ref a35, .ref a36, .ref a37, .int v_m_53, .int v_m_54, .int v_m_55, .int v_m_56, .int v_m_57, .int v_m_58, .int v_m_59, .int v_m_60, .ref a38, .int v_m_62, .ref a39, .ref a40, .ref a41, .ref a42, .int v_m_67, .int v_m_68])), (a2, .inl (cB, 1300, .inl g_m_text))] H → va_D A [(a0, .inr (10, [.ref a1, .ref a2, .int v_m_2, .int v_m_3, .int v_m_4, .int v_m_5, .int h1, .int h35, .int v_m_8, .int v_m_9, .long y39, .ref a3, .ref a4, .ref a5, .ref a6, .ref a7, .ref a8, .ref a9, .ref a10, .ref a11, .ref a12, .ref a13, .ref a14, .ref a15, .ref a16, .ref a17, .ref a18, .ref a19, .ref a20, .ref a21, .ref a22, .ref a23, .ref a24, .ref a25, .ref a26, .ref a27, .ref a28, .ref a29, .ref a30, .ref a31, .int 0, .int 1, .ref a32, .ref a33, .int v_m_44, .int v_m_45, .int v_m_46, .int v_m_47, .ref a34, .int v_m_49, .ref a35, .ref a36, .ref a37, .int v_m_53, .int v_m_54, .int v_m_55, .int v_m_56, .int v_m_57, .int v_m_58, .int v_m_59, .int v_m_60, .ref a38, .int v_m_62, .ref a39, .ref a40, .ref a41, .ref a42, .int v_m_67, .int v_m_68])), (a2, .inl (cB, 1300, .inl g_m_text))] → va_S A s.heap H locs → lv_has ls 3 [(0, .ref a0), (1, .int r3), (2, .int x38)] → W p l e ({ frames := 1, cells := 0, slots := 0, locals := 22 } : Room) s m args below meth c H locs 0 0 Qm (F0 m 156 ls []) := by
                    intro n
                    induction n with
                    | zero => intro x38 y39 H locs ls hv hm; omega
                    | succ n ih_156 =>
                      intro x38 y39 H locs ls hv hm hP hD hS hl
                      refine lv_iload_n hx hb dX10_goOn_156 rfl (lv_at hl 2 rfl) ?_
                      refine lv_aload_n hx hb dX10_goOn_157 rfl (lv_at hl 0 rfl) ?_
                      refine k_get hC hK hP iX10 0 7 wf_X10_55 rfl (by decide) rfl rfl dX10_goOn_158 ?_
                      refine lv_icmp_ge (tgt := 199) hx hb dX10_goOn_161 (by decide) (fun c40 => ?_) (fun c40 => ?_)
                      · have dc40 : h35.toInt ≤ x38.toInt := (fa_le _ _).mp c40
                        refine lv_aload_n hx hb dX10_goOn_199 rfl (lv_at hl 0 rfl) ?_
                        refine lv_aload_n hx hb dX10_goOn_200 rfl (lv_at hl 0 rfl) ?_
                        refine k_get hC hK hP iX10 0 7 wf_X10_55 rfl (by decide) rfl rfl dX10_goOn_201 ?_
                        refine lv_aload_n hx hb dX10_goOn_204 rfl (lv_at hl 0 rfl) ?_
                        refine k_get hC hK hP iX10 0 6 wf_X10_58 rfl (by decide) rfl rfl dX10_goOn_205 ?_
                        refine lv_isub hx hb dX10_goOn_208 ?_
                        refine t_i (fun q => q.toInt = h35.toInt - h1.toInt) (sub_i (by show (-2147483648 : Int) ≤ h35.toInt - h1.toInt; omega) (by show h35.toInt - h1.toInt ≤ (2147483647 : Int); omega)) (fun z41 tz41 => ?_)
                        refine lv_bipush (v := 8) hx hb dX10_goOn_209 (by decide) ?_
                        refine lv_icmp_le (tgt := 218) hx hb dX10_goOn_211 (by decide) (fun c42 => ?_) (fun c42 => ?_)
                        · have dc42 : z41.toInt ≤ 8 := (fa_le _ _).mp c42
                          refine lv_aload_n hx hb dX10_goOn_218 rfl (lv_at hl 0 rfl) ?_
                          refine k_get hC hK hP iX10 0 10 wf_X10_72 rfl (by decide) rfl rfl dX10_goOn_219 ?_
                          refine k_ci (wr := [(a0, .inr (10, [.ref a1, .ref a2, .int v_m_2, .int v_m_3, .int v_m_4, .int v_m_5, .int h1, .int h35, .int v_m_8, .int v_m_9, .long y39, .ref a3, .ref a4, .ref a5, .ref a6, .ref a7, .ref a8, .ref a9, .ref a10, .ref a11, .ref a12, .ref a13, .ref a14, .ref a15, .ref a16, .ref a17, .ref a18, .ref a19, .ref a20, .ref a21, .ref a22, .ref a23, .ref a24, .ref a25, .ref a26, .ref a27, .ref a28, .ref a29, .ref a30, .ref a31, .int 0, .int 1, .ref a32, .ref a33, .int v_m_44, .int v_m_45, .int v_m_46, .int v_m_47, .ref a34, .int v_m_49, .ref a35, .ref a36, .ref a37, .int v_m_53, .int v_m_54, .int v_m_55, .int v_m_56, .int v_m_57, .int v_m_58, .int v_m_59, .int v_m_60, .ref a38, .int v_m_62, .ref a39, .ref a40, .ref a41, .ref a42, .int v_m_67, .int v_m_68])), (a2, .inl (cB, 1300, .inl g_m_text))]) (k_rS hC hN hZ hS hA hK hP hD (c5_X10_isKept l G cI cJ cB cZ y39) [] rfl (by decide) mi_X10_isKept st_X10_isKept wm_X10_76 hl.1 rfl rfl (Nat.le_of_ble_eq_true rfl) ⟨(Nat.le_of_ble_eq_true rfl), (Nat.le_of_ble_eq_true rfl)⟩ dX10_goOn_222 ⟨(Nat.le_of_ble_eq_true rfl), (Nat.le_of_ble_eq_true rfl)⟩) hP hD hS hA [] [0, 1] rfl rfl (by decide) (by decide) (fun r43 u43 H locs hp hP hD hS => ?_)
                          have hp : (0 ≤ r43.toInt ∧ r43.toInt ≤ 1) := hp
                          have hP : va_P G cl [(a0, .inr (10, [.ref a1, .ref a2, .int v_m_2, .int v_m_3, .int v_m_4, .int v_m_5, .int h1, .int h35, .int v_m_8, .int v_m_9, .long y39, .ref a3, .ref a4, .ref a5, .ref a6, .ref a7, .ref a8, .ref a9, .ref a10, .ref a11, .ref a12, .ref a13, .ref a14, .ref a15, .ref a16, .ref a17, .ref a18, .ref a19, .ref a20, .ref a21, .ref a22, .ref a23, .ref a24, .ref a25, .ref a26, .ref a27, .ref a28, .ref a29, .ref a30, .ref a31, .int 0, .int 1, .ref a32, .ref a33, .int v_m_44, .int v_m_45, .int v_m_46, .int v_m_47, .ref a34, .int v_m_49, .ref a35, .ref a36, .ref a37, .int v_m_53, .int v_m_54, .int v_m_55, .int v_m_56, .int v_m_57, .int v_m_58, .int v_m_59, .int v_m_60, .ref a38, .int v_m_62, .ref a39, .ref a40, .ref a41, .ref a42, .int v_m_67, .int v_m_68])), (a2, .inl (cB, 1300, .inl g_m_text))] H := hP
                          have hD : va_D A [(a0, .inr (10, [.ref a1, .ref a2, .int v_m_2, .int v_m_3, .int v_m_4, .int v_m_5, .int h1, .int h35, .int v_m_8, .int v_m_9, .long y39, .ref a3, .ref a4, .ref a5, .ref a6, .ref a7, .ref a8, .ref a9, .ref a10, .ref a11, .ref a12, .ref a13, .ref a14, .ref a15, .ref a16, .ref a17, .ref a18, .ref a19, .ref a20, .ref a21, .ref a22, .ref a23, .ref a24, .ref a25, .ref a26, .ref a27, .ref a28, .ref a29, .ref a30, .ref a31, .int 0, .int 1, .ref a32, .ref a33, .int v_m_44, .int v_m_45, .int v_m_46, .int v_m_47, .ref a34, .int v_m_49, .ref a35, .ref a36, .ref a37, .int v_m_53, .int v_m_54, .int v_m_55, .int v_m_56, .int v_m_57, .int v_m_58, .int v_m_59, .int v_m_60, .ref a38, .int v_m_62, .ref a39, .ref a40, .ref a41, .ref a42, .int v_m_67, .int v_m_68])), (a2, .inl (cB, 1300, .inl g_m_text))] := hD
                          have hq43 := hp
                          refine lv_if_eq (tgt := 232) hx hb dX10_goOn_225 (by decide) (fun c44 => ?_) (fun c44 => ?_)
                          · have dc44 : r43.toInt = 0 := (fa_eq _ _).mp c44
                            refine lv_iconst (v := 2) hx hb dX10_goOn_232 (by decide) ?_
                            refine k_put hC hK hP hD hS iX10 tyX10_ok nmX10 0 8 wf_X10_65 rfl (by decide) rfl rfl rfl rfl (Nat.le_of_ble_eq_true rfl) dX10_goOn_233 (fun H locs hP hD hS => ?_)
                            have hP : va_P G cl [(a0, .inr (10, [.ref a1, .ref a2, .int v_m_2, .int v_m_3, .int v_m_4, .int v_m_5, .int h1, .int h35, .int 2, .int v_m_9, .long y39, .ref a3, .ref a4, .ref a5, .ref a6, .ref a7, .ref a8, .ref a9, .ref a10, .ref a11, .ref a12, .ref a13, .ref a14, .ref a15, .ref a16, .ref a17, .ref a18, .ref a19, .ref a20, .ref a21, .ref a22, .ref a23, .ref a24, .ref a25, .ref a26, .ref a27, .ref a28, .ref a29, .ref a30, .ref a31, .int 0, .int 1, .ref a32, .ref a33, .int v_m_44, .int v_m_45, .int v_m_46, .int v_m_47, .ref a34, .int v_m_49, .ref a35, .ref a36, .ref a37, .int v_m_53, .int v_m_54, .int v_m_55, .int v_m_56, .int v_m_57, .int v_m_58, .int v_m_59, .int v_m_60, .ref a38, .int v_m_62, .ref a39, .ref a40, .ref a41, .ref a42, .int v_m_67, .int v_m_68])), (a2, .inl (cB, 1300, .inl g_m_text))] H := hP
                            have hD : va_D A [(a0, .inr (10, [.ref a1, .ref a2, .int v_m_2, .int v_m_3, .int v_m_4, .int v_m_5, .int h1, .int h35, .int 2, .int v_m_9, .long y39, .ref a3, .ref a4, .ref a5, .ref a6, .ref a7, .ref a8, .ref a9, .ref a10, .ref a11, .ref a12, .ref a13, .ref a14, .ref a15, .ref a16, .ref a17, .ref a18, .ref a19, .ref a20, .ref a21, .ref a22, .ref a23, .ref a24, .ref a25, .ref a26, .ref a27, .ref a28, .ref a29, .ref a30, .ref a31, .int 0, .int 1, .ref a32, .ref a33, .int v_m_44, .int v_m_45, .int v_m_46, .int v_m_47, .ref a34, .int v_m_49, .ref a35, .ref a36, .ref a37, .int v_m_53, .int v_m_54, .int v_m_55, .int v_m_56, .int v_m_57, .int v_m_58, .int v_m_59, .int v_m_60, .ref a38, .int v_m_62, .ref a39, .ref a40, .ref a41, .ref a42, .int v_m_67, .int v_m_68])), (a2, .inl (cB, 1300, .inl g_m_text))] := hD
                            refine lv_goto (tgt := 376) hx hb dX10_goOn_236 (by decide) ?_
                            have l_l45 : (2 : Int32).toInt = 2 := rfl
                            rw [← hQm]
                            exact k_vret hC hr hlk hK hP hD hS (h1, h35, 2, v_m_9, y39) [0, 1] rfl (by decide) (show 0 ≤ h1.toInt ∧ h1.toInt ≤ 1300 ∧ 0 ≤ h35.toInt ∧ h35.toInt ≤ 1300 ∧ 0 ≤ (2 : Int32).toInt ∧ (2 : Int32).toInt ≤ 5 ∧ 0 ≤ v_m_9.toInt ∧ v_m_9.toInt ≤ 9999 ∧ (v_m_7.toInt ≤ h35.toInt) ∧ ((2 : Int32).toInt ≤ 5 * (h35.toInt - v_m_7.toInt)) ∧ (h35.toInt ≤ v_m_3.toInt) from by omega) (Nat.le_of_ble_eq_true rfl) (Nat.le_of_ble_eq_true rfl) dX10_goOn_376
                          · have dc44 : r43.toInt ≠ 0 := fa_ne c44
                            refine lv_iconst (v := 3) hx hb dX10_goOn_228 (by decide) ?_
                            refine lv_goto (tgt := 233) hx hb dX10_goOn_229 (by decide) ?_
                            refine k_put hC hK hP hD hS iX10 tyX10_ok nmX10 0 8 wf_X10_65 rfl (by decide) rfl rfl rfl rfl (Nat.le_of_ble_eq_true rfl) dX10_goOn_233 (fun H locs hP hD hS => ?_)
                            have hP : va_P G cl [(a0, .inr (10, [.ref a1, .ref a2, .int v_m_2, .int v_m_3, .int v_m_4, .int v_m_5, .int h1, .int h35, .int 3, .int v_m_9, .long y39, .ref a3, .ref a4, .ref a5, .ref a6, .ref a7, .ref a8, .ref a9, .ref a10, .ref a11, .ref a12, .ref a13, .ref a14, .ref a15, .ref a16, .ref a17, .ref a18, .ref a19, .ref a20, .ref a21, .ref a22, .ref a23, .ref a24, .ref a25, .ref a26, .ref a27, .ref a28, .ref a29, .ref a30, .ref a31, .int 0, .int 1, .ref a32, .ref a33, .int v_m_44, .int v_m_45, .int v_m_46, .int v_m_47, .ref a34, .int v_m_49, .ref a35, .ref a36, .ref a37, .int v_m_53, .int v_m_54, .int v_m_55, .int v_m_56, .int v_m_57, .int v_m_58, .int v_m_59, .int v_m_60, .ref a38, .int v_m_62, .ref a39, .ref a40, .ref a41, .ref a42, .int v_m_67, .int v_m_68])), (a2, .inl (cB, 1300, .inl g_m_text))] H := hP
                            have hD : va_D A [(a0, .inr (10, [.ref a1, .ref a2, .int v_m_2, .int v_m_3, .int v_m_4, .int v_m_5, .int h1, .int h35, .int 3, .int v_m_9, .long y39, .ref a3, .ref a4, .ref a5, .ref a6, .ref a7, .ref a8, .ref a9, .ref a10, .ref a11, .ref a12, .ref a13, .ref a14, .ref a15, .ref a16, .ref a17, .ref a18, .ref a19, .ref a20, .ref a21, .ref a22, .ref a23, .ref a24, .ref a25, .ref a26, .ref a27, .ref a28, .ref a29, .ref a30, .ref a31, .int 0, .int 1, .ref a32, .ref a33, .int v_m_44, .int v_m_45, .int v_m_46, .int v_m_47, .ref a34, .int v_m_49, .ref a35, .ref a36, .ref a37, .int v_m_53, .int v_m_54, .int v_m_55, .int v_m_56, .int v_m_57, .int v_m_58, .int v_m_59, .int v_m_60, .ref a38, .int v_m_62, .ref a39, .ref a40, .ref a41, .ref a42, .int v_m_67, .int v_m_68])), (a2, .inl (cB, 1300, .inl g_m_text))] := hD
                            refine lv_goto (tgt := 376) hx hb dX10_goOn_236 (by decide) ?_
                            have l_l46 : (3 : Int32).toInt = 3 := rfl
                            rw [← hQm]
                            exact k_vret hC hr hlk hK hP hD hS (h1, h35, 3, v_m_9, y39) [0, 1] rfl (by decide) (show 0 ≤ h1.toInt ∧ h1.toInt ≤ 1300 ∧ 0 ≤ h35.toInt ∧ h35.toInt ≤ 1300 ∧ 0 ≤ (3 : Int32).toInt ∧ (3 : Int32).toInt ≤ 5 ∧ 0 ≤ v_m_9.toInt ∧ v_m_9.toInt ≤ 9999 ∧ (v_m_7.toInt ≤ h35.toInt) ∧ ((3 : Int32).toInt ≤ 5 * (h35.toInt - v_m_7.toInt)) ∧ (h35.toInt ≤ v_m_3.toInt) from by omega) (Nat.le_of_ble_eq_true rfl) (Nat.le_of_ble_eq_true rfl) dX10_goOn_376
                        · have dc42 : 8 < z41.toInt := fa_nle c42
                          refine lv_iconst (v := 1) hx hb dX10_goOn_214 (by decide) ?_
                          refine lv_goto (tgt := 233) hx hb dX10_goOn_215 (by decide) ?_
                          refine k_put hC hK hP hD hS iX10 tyX10_ok nmX10 0 8 wf_X10_65 rfl (by decide) rfl rfl rfl rfl (Nat.le_of_ble_eq_true rfl) dX10_goOn_233 (fun H locs hP hD hS => ?_)
                          have hP : va_P G cl [(a0, .inr (10, [.ref a1, .ref a2, .int v_m_2, .int v_m_3, .int v_m_4, .int v_m_5, .int h1, .int h35, .int 1, .int v_m_9, .long y39, .ref a3, .ref a4, .ref a5, .ref a6, .ref a7, .ref a8, .ref a9, .ref a10, .ref a11, .ref a12, .ref a13, .ref a14, .ref a15, .ref a16, .ref a17, .ref a18, .ref a19, .ref a20, .ref a21, .ref a22, .ref a23, .ref a24, .ref a25, .ref a26, .ref a27, .ref a28, .ref a29, .ref a30, .ref a31, .int 0, .int 1, .ref a32, .ref a33, .int v_m_44, .int v_m_45, .int v_m_46, .int v_m_47, .ref a34, .int v_m_49, .ref a35, .ref a36, .ref a37, .int v_m_53, .int v_m_54, .int v_m_55, .int v_m_56, .int v_m_57, .int v_m_58, .int v_m_59, .int v_m_60, .ref a38, .int v_m_62, .ref a39, .ref a40, .ref a41, .ref a42, .int v_m_67, .int v_m_68])), (a2, .inl (cB, 1300, .inl g_m_text))] H := hP
                          have hD : va_D A [(a0, .inr (10, [.ref a1, .ref a2, .int v_m_2, .int v_m_3, .int v_m_4, .int v_m_5, .int h1, .int h35, .int 1, .int v_m_9, .long y39, .ref a3, .ref a4, .ref a5, .ref a6, .ref a7, .ref a8, .ref a9, .ref a10, .ref a11, .ref a12, .ref a13, .ref a14, .ref a15, .ref a16, .ref a17, .ref a18, .ref a19, .ref a20, .ref a21, .ref a22, .ref a23, .ref a24, .ref a25, .ref a26, .ref a27, .ref a28, .ref a29, .ref a30, .ref a31, .int 0, .int 1, .ref a32, .ref a33, .int v_m_44, .int v_m_45, .int v_m_46, .int v_m_47, .ref a34, .int v_m_49, .ref a35, .ref a36, .ref a37, .int v_m_53, .int v_m_54, .int v_m_55, .int v_m_56, .int v_m_57, .int v_m_58, .int v_m_59, .int v_m_60, .ref a38, .int v_m_62, .ref a39, .ref a40, .ref a41, .ref a42, .int v_m_67, .int v_m_68])), (a2, .inl (cB, 1300, .inl g_m_text))] := hD
                          refine lv_goto (tgt := 376) hx hb dX10_goOn_236 (by decide) ?_
                          have l_l47 : (1 : Int32).toInt = 1 := rfl
                          rw [← hQm]
                          exact k_vret hC hr hlk hK hP hD hS (h1, h35, 1, v_m_9, y39) [0, 1] rfl (by decide) (show 0 ≤ h1.toInt ∧ h1.toInt ≤ 1300 ∧ 0 ≤ h35.toInt ∧ h35.toInt ≤ 1300 ∧ 0 ≤ (1 : Int32).toInt ∧ (1 : Int32).toInt ≤ 5 ∧ 0 ≤ v_m_9.toInt ∧ v_m_9.toInt ≤ 9999 ∧ (v_m_7.toInt ≤ h35.toInt) ∧ ((1 : Int32).toInt ≤ 5 * (h35.toInt - v_m_7.toInt)) ∧ (h35.toInt ≤ v_m_3.toInt) from by omega) (Nat.le_of_ble_eq_true rfl) (Nat.le_of_ble_eq_true rfl) dX10_goOn_376
                      · have dc40 : x38.toInt < h35.toInt := fa_nle c40
                        refine lv_iload_n hx hb dX10_goOn_164 rfl (lv_at hl 2 rfl) ?_
                        refine lv_aload_n hx hb dX10_goOn_165 rfl (lv_at hl 0 rfl) ?_
                        refine k_get hC hK hP iX10 0 6 wf_X10_58 rfl (by decide) rfl rfl dX10_goOn_166 ?_
                        refine lv_bipush (v := 8) hx hb dX10_goOn_169 (by decide) ?_
                        refine lv_iadd hx hb dX10_goOn_171 ?_
                        refine t_i (fun q => q.toInt = h1.toInt + 8) (add_i (by show (-2147483648 : Int) ≤ h1.toInt + 8; omega) (by show h1.toInt + 8 ≤ (2147483647 : Int); omega)) (fun z48 tz48 => ?_)
                        refine lv_icmp_ge (tgt := 199) hx hb dX10_goOn_172 (by decide) (fun c49 => ?_) (fun c49 => ?_)
                        · have dc49 : z48.toInt ≤ x38.toInt := (fa_le _ _).mp c49
                          refine lv_aload_n hx hb dX10_goOn_199 rfl (lv_at hl 0 rfl) ?_
                          refine lv_aload_n hx hb dX10_goOn_200 rfl (lv_at hl 0 rfl) ?_
                          refine k_get hC hK hP iX10 0 7 wf_X10_55 rfl (by decide) rfl rfl dX10_goOn_201 ?_
                          refine lv_aload_n hx hb dX10_goOn_204 rfl (lv_at hl 0 rfl) ?_
                          refine k_get hC hK hP iX10 0 6 wf_X10_58 rfl (by decide) rfl rfl dX10_goOn_205 ?_
                          refine lv_isub hx hb dX10_goOn_208 ?_
                          refine t_i (fun q => q.toInt = h35.toInt - h1.toInt) (sub_i (by show (-2147483648 : Int) ≤ h35.toInt - h1.toInt; omega) (by show h35.toInt - h1.toInt ≤ (2147483647 : Int); omega)) (fun z50 tz50 => ?_)
                          refine lv_bipush (v := 8) hx hb dX10_goOn_209 (by decide) ?_
                          refine lv_icmp_le (tgt := 218) hx hb dX10_goOn_211 (by decide) (fun c51 => ?_) (fun c51 => ?_)
                          · have dc51 : z50.toInt ≤ 8 := (fa_le _ _).mp c51
                            refine lv_aload_n hx hb dX10_goOn_218 rfl (lv_at hl 0 rfl) ?_
                            refine k_get hC hK hP iX10 0 10 wf_X10_72 rfl (by decide) rfl rfl dX10_goOn_219 ?_
                            refine k_ci (wr := [(a0, .inr (10, [.ref a1, .ref a2, .int v_m_2, .int v_m_3, .int v_m_4, .int v_m_5, .int h1, .int h35, .int v_m_8, .int v_m_9, .long y39, .ref a3, .ref a4, .ref a5, .ref a6, .ref a7, .ref a8, .ref a9, .ref a10, .ref a11, .ref a12, .ref a13, .ref a14, .ref a15, .ref a16, .ref a17, .ref a18, .ref a19, .ref a20, .ref a21, .ref a22, .ref a23, .ref a24, .ref a25, .ref a26, .ref a27, .ref a28, .ref a29, .ref a30, .ref a31, .int 0, .int 1, .ref a32, .ref a33, .int v_m_44, .int v_m_45, .int v_m_46, .int v_m_47, .ref a34, .int v_m_49, .ref a35, .ref a36, .ref a37, .int v_m_53, .int v_m_54, .int v_m_55, .int v_m_56, .int v_m_57, .int v_m_58, .int v_m_59, .int v_m_60, .ref a38, .int v_m_62, .ref a39, .ref a40, .ref a41, .ref a42, .int v_m_67, .int v_m_68])), (a2, .inl (cB, 1300, .inl g_m_text))]) (k_rS hC hN hZ hS hA hK hP hD (c5_X10_isKept l G cI cJ cB cZ y39) [] rfl (by decide) mi_X10_isKept st_X10_isKept wm_X10_76 hl.1 rfl rfl (Nat.le_of_ble_eq_true rfl) ⟨(Nat.le_of_ble_eq_true rfl), (Nat.le_of_ble_eq_true rfl)⟩ dX10_goOn_222 ⟨(Nat.le_of_ble_eq_true rfl), (Nat.le_of_ble_eq_true rfl)⟩) hP hD hS hA [] [0, 1] rfl rfl (by decide) (by decide) (fun r52 u52 H locs hp hP hD hS => ?_)
                            have hp : (0 ≤ r52.toInt ∧ r52.toInt ≤ 1) := hp
                            have hP : va_P G cl [(a0, .inr (10, [.ref a1, .ref a2, .int v_m_2, .int v_m_3, .int v_m_4, .int v_m_5, .int h1, .int h35, .int v_m_8, .int v_m_9, .long y39, .ref a3, .ref a4, .ref a5, .ref a6, .ref a7, .ref a8, .ref a9, .ref a10, .ref a11, .ref a12, .ref a13, .ref a14, .ref a15, .ref a16, .ref a17, .ref a18, .ref a19, .ref a20, .ref a21, .ref a22, .ref a23, .ref a24, .ref a25, .ref a26, .ref a27, .ref a28, .ref a29, .ref a30, .ref a31, .int 0, .int 1, .ref a32, .ref a33, .int v_m_44, .int v_m_45, .int v_m_46, .int v_m_47, .ref a34, .int v_m_49, .ref a35, .ref a36, .ref a37, .int v_m_53, .int v_m_54, .int v_m_55, .int v_m_56, .int v_m_57, .int v_m_58, .int v_m_59, .int v_m_60, .ref a38, .int v_m_62, .ref a39, .ref a40, .ref a41, .ref a42, .int v_m_67, .int v_m_68])), (a2, .inl (cB, 1300, .inl g_m_text))] H := hP
                            have hD : va_D A [(a0, .inr (10, [.ref a1, .ref a2, .int v_m_2, .int v_m_3, .int v_m_4, .int v_m_5, .int h1, .int h35, .int v_m_8, .int v_m_9, .long y39, .ref a3, .ref a4, .ref a5, .ref a6, .ref a7, .ref a8, .ref a9, .ref a10, .ref a11, .ref a12, .ref a13, .ref a14, .ref a15, .ref a16, .ref a17, .ref a18, .ref a19, .ref a20, .ref a21, .ref a22, .ref a23, .ref a24, .ref a25, .ref a26, .ref a27, .ref a28, .ref a29, .ref a30, .ref a31, .int 0, .int 1, .ref a32, .ref a33, .int v_m_44, .int v_m_45, .int v_m_46, .int v_m_47, .ref a34, .int v_m_49, .ref a35, .ref a36, .ref a37, .int v_m_53, .int v_m_54, .int v_m_55, .int v_m_56, .int v_m_57, .int v_m_58, .int v_m_59, .int v_m_60, .ref a38, .int v_m_62, .ref a39, .ref a40, .ref a41, .ref a42, .int v_m_67, .int v_m_68])), (a2, .inl (cB, 1300, .inl g_m_text))] := hD
                            have hq52 := hp
                            refine lv_if_eq (tgt := 232) hx hb dX10_goOn_225 (by decide) (fun c53 => ?_) (fun c53 => ?_)
                            · have dc53 : r52.toInt = 0 := (fa_eq _ _).mp c53
                              refine lv_iconst (v := 2) hx hb dX10_goOn_232 (by decide) ?_
                              refine k_put hC hK hP hD hS iX10 tyX10_ok nmX10 0 8 wf_X10_65 rfl (by decide) rfl rfl rfl rfl (Nat.le_of_ble_eq_true rfl) dX10_goOn_233 (fun H locs hP hD hS => ?_)
                              have hP : va_P G cl [(a0, .inr (10, [.ref a1, .ref a2, .int v_m_2, .int v_m_3, .int v_m_4, .int v_m_5, .int h1, .int h35, .int 2, .int v_m_9, .long y39, .ref a3, .ref a4, .ref a5, .ref a6, .ref a7, .ref a8, .ref a9, .ref a10, .ref a11, .ref a12, .ref a13, .ref a14, .ref a15, .ref a16, .ref a17, .ref a18, .ref a19, .ref a20, .ref a21, .ref a22, .ref a23, .ref a24, .ref a25, .ref a26, .ref a27, .ref a28, .ref a29, .ref a30, .ref a31, .int 0, .int 1, .ref a32, .ref a33, .int v_m_44, .int v_m_45, .int v_m_46, .int v_m_47, .ref a34, .int v_m_49, .ref a35, .ref a36, .ref a37, .int v_m_53, .int v_m_54, .int v_m_55, .int v_m_56, .int v_m_57, .int v_m_58, .int v_m_59, .int v_m_60, .ref a38, .int v_m_62, .ref a39, .ref a40, .ref a41, .ref a42, .int v_m_67, .int v_m_68])), (a2, .inl (cB, 1300, .inl g_m_text))] H := hP
                              have hD : va_D A [(a0, .inr (10, [.ref a1, .ref a2, .int v_m_2, .int v_m_3, .int v_m_4, .int v_m_5, .int h1, .int h35, .int 2, .int v_m_9, .long y39, .ref a3, .ref a4, .ref a5, .ref a6, .ref a7, .ref a8, .ref a9, .ref a10, .ref a11, .ref a12, .ref a13, .ref a14, .ref a15, .ref a16, .ref a17, .ref a18, .ref a19, .ref a20, .ref a21, .ref a22, .ref a23, .ref a24, .ref a25, .ref a26, .ref a27, .ref a28, .ref a29, .ref a30, .ref a31, .int 0, .int 1, .ref a32, .ref a33, .int v_m_44, .int v_m_45, .int v_m_46, .int v_m_47, .ref a34, .int v_m_49, .ref a35, .ref a36, .ref a37, .int v_m_53, .int v_m_54, .int v_m_55, .int v_m_56, .int v_m_57, .int v_m_58, .int v_m_59, .int v_m_60, .ref a38, .int v_m_62, .ref a39, .ref a40, .ref a41, .ref a42, .int v_m_67, .int v_m_68])), (a2, .inl (cB, 1300, .inl g_m_text))] := hD
                              refine lv_goto (tgt := 376) hx hb dX10_goOn_236 (by decide) ?_
                              have l_l54 : (2 : Int32).toInt = 2 := rfl
                              rw [← hQm]
                              exact k_vret hC hr hlk hK hP hD hS (h1, h35, 2, v_m_9, y39) [0, 1] rfl (by decide) (show 0 ≤ h1.toInt ∧ h1.toInt ≤ 1300 ∧ 0 ≤ h35.toInt ∧ h35.toInt ≤ 1300 ∧ 0 ≤ (2 : Int32).toInt ∧ (2 : Int32).toInt ≤ 5 ∧ 0 ≤ v_m_9.toInt ∧ v_m_9.toInt ≤ 9999 ∧ (v_m_7.toInt ≤ h35.toInt) ∧ ((2 : Int32).toInt ≤ 5 * (h35.toInt - v_m_7.toInt)) ∧ (h35.toInt ≤ v_m_3.toInt) from by omega) (Nat.le_of_ble_eq_true rfl) (Nat.le_of_ble_eq_true rfl) dX10_goOn_376
                            · have dc53 : r52.toInt ≠ 0 := fa_ne c53
                              refine lv_iconst (v := 3) hx hb dX10_goOn_228 (by decide) ?_
                              refine lv_goto (tgt := 233) hx hb dX10_goOn_229 (by decide) ?_
                              refine k_put hC hK hP hD hS iX10 tyX10_ok nmX10 0 8 wf_X10_65 rfl (by decide) rfl rfl rfl rfl (Nat.le_of_ble_eq_true rfl) dX10_goOn_233 (fun H locs hP hD hS => ?_)
                              have hP : va_P G cl [(a0, .inr (10, [.ref a1, .ref a2, .int v_m_2, .int v_m_3, .int v_m_4, .int v_m_5, .int h1, .int h35, .int 3, .int v_m_9, .long y39, .ref a3, .ref a4, .ref a5, .ref a6, .ref a7, .ref a8, .ref a9, .ref a10, .ref a11, .ref a12, .ref a13, .ref a14, .ref a15, .ref a16, .ref a17, .ref a18, .ref a19, .ref a20, .ref a21, .ref a22, .ref a23, .ref a24, .ref a25, .ref a26, .ref a27, .ref a28, .ref a29, .ref a30, .ref a31, .int 0, .int 1, .ref a32, .ref a33, .int v_m_44, .int v_m_45, .int v_m_46, .int v_m_47, .ref a34, .int v_m_49, .ref a35, .ref a36, .ref a37, .int v_m_53, .int v_m_54, .int v_m_55, .int v_m_56, .int v_m_57, .int v_m_58, .int v_m_59, .int v_m_60, .ref a38, .int v_m_62, .ref a39, .ref a40, .ref a41, .ref a42, .int v_m_67, .int v_m_68])), (a2, .inl (cB, 1300, .inl g_m_text))] H := hP
                              have hD : va_D A [(a0, .inr (10, [.ref a1, .ref a2, .int v_m_2, .int v_m_3, .int v_m_4, .int v_m_5, .int h1, .int h35, .int 3, .int v_m_9, .long y39, .ref a3, .ref a4, .ref a5, .ref a6, .ref a7, .ref a8, .ref a9, .ref a10, .ref a11, .ref a12, .ref a13, .ref a14, .ref a15, .ref a16, .ref a17, .ref a18, .ref a19, .ref a20, .ref a21, .ref a22, .ref a23, .ref a24, .ref a25, .ref a26, .ref a27, .ref a28, .ref a29, .ref a30, .ref a31, .int 0, .int 1, .ref a32, .ref a33, .int v_m_44, .int v_m_45, .int v_m_46, .int v_m_47, .ref a34, .int v_m_49, .ref a35, .ref a36, .ref a37, .int v_m_53, .int v_m_54, .int v_m_55, .int v_m_56, .int v_m_57, .int v_m_58, .int v_m_59, .int v_m_60, .ref a38, .int v_m_62, .ref a39, .ref a40, .ref a41, .ref a42, .int v_m_67, .int v_m_68])), (a2, .inl (cB, 1300, .inl g_m_text))] := hD
                              refine lv_goto (tgt := 376) hx hb dX10_goOn_236 (by decide) ?_
                              have l_l55 : (3 : Int32).toInt = 3 := rfl
                              rw [← hQm]
                              exact k_vret hC hr hlk hK hP hD hS (h1, h35, 3, v_m_9, y39) [0, 1] rfl (by decide) (show 0 ≤ h1.toInt ∧ h1.toInt ≤ 1300 ∧ 0 ≤ h35.toInt ∧ h35.toInt ≤ 1300 ∧ 0 ≤ (3 : Int32).toInt ∧ (3 : Int32).toInt ≤ 5 ∧ 0 ≤ v_m_9.toInt ∧ v_m_9.toInt ≤ 9999 ∧ (v_m_7.toInt ≤ h35.toInt) ∧ ((3 : Int32).toInt ≤ 5 * (h35.toInt - v_m_7.toInt)) ∧ (h35.toInt ≤ v_m_3.toInt) from by omega) (Nat.le_of_ble_eq_true rfl) (Nat.le_of_ble_eq_true rfl) dX10_goOn_376
                          · have dc51 : 8 < z50.toInt := fa_nle c51
                            refine lv_iconst (v := 1) hx hb dX10_goOn_214 (by decide) ?_
                            refine lv_goto (tgt := 233) hx hb dX10_goOn_215 (by decide) ?_
                            refine k_put hC hK hP hD hS iX10 tyX10_ok nmX10 0 8 wf_X10_65 rfl (by decide) rfl rfl rfl rfl (Nat.le_of_ble_eq_true rfl) dX10_goOn_233 (fun H locs hP hD hS => ?_)
                            have hP : va_P G cl [(a0, .inr (10, [.ref a1, .ref a2, .int v_m_2, .int v_m_3, .int v_m_4, .int v_m_5, .int h1, .int h35, .int 1, .int v_m_9, .long y39, .ref a3, .ref a4, .ref a5, .ref a6, .ref a7, .ref a8, .ref a9, .ref a10, .ref a11, .ref a12, .ref a13, .ref a14, .ref a15, .ref a16, .ref a17, .ref a18, .ref a19, .ref a20, .ref a21, .ref a22, .ref a23, .ref a24, .ref a25, .ref a26, .ref a27, .ref a28, .ref a29, .ref a30, .ref a31, .int 0, .int 1, .ref a32, .ref a33, .int v_m_44, .int v_m_45, .int v_m_46, .int v_m_47, .ref a34, .int v_m_49, .ref a35, .ref a36, .ref a37, .int v_m_53, .int v_m_54, .int v_m_55, .int v_m_56, .int v_m_57, .int v_m_58, .int v_m_59, .int v_m_60, .ref a38, .int v_m_62, .ref a39, .ref a40, .ref a41, .ref a42, .int v_m_67, .int v_m_68])), (a2, .inl (cB, 1300, .inl g_m_text))] H := hP
                            have hD : va_D A [(a0, .inr (10, [.ref a1, .ref a2, .int v_m_2, .int v_m_3, .int v_m_4, .int v_m_5, .int h1, .int h35, .int 1, .int v_m_9, .long y39, .ref a3, .ref a4, .ref a5, .ref a6, .ref a7, .ref a8, .ref a9, .ref a10, .ref a11, .ref a12, .ref a13, .ref a14, .ref a15, .ref a16, .ref a17, .ref a18, .ref a19, .ref a20, .ref a21, .ref a22, .ref a23, .ref a24, .ref a25, .ref a26, .ref a27, .ref a28, .ref a29, .ref a30, .ref a31, .int 0, .int 1, .ref a32, .ref a33, .int v_m_44, .int v_m_45, .int v_m_46, .int v_m_47, .ref a34, .int v_m_49, .ref a35, .ref a36, .ref a37, .int v_m_53, .int v_m_54, .int v_m_55, .int v_m_56, .int v_m_57, .int v_m_58, .int v_m_59, .int v_m_60, .ref a38, .int v_m_62, .ref a39, .ref a40, .ref a41, .ref a42, .int v_m_67, .int v_m_68])), (a2, .inl (cB, 1300, .inl g_m_text))] := hD
                            refine lv_goto (tgt := 376) hx hb dX10_goOn_236 (by decide) ?_
                            have l_l56 : (1 : Int32).toInt = 1 := rfl
                            rw [← hQm]
                            exact k_vret hC hr hlk hK hP hD hS (h1, h35, 1, v_m_9, y39) [0, 1] rfl (by decide) (show 0 ≤ h1.toInt ∧ h1.toInt ≤ 1300 ∧ 0 ≤ h35.toInt ∧ h35.toInt ≤ 1300 ∧ 0 ≤ (1 : Int32).toInt ∧ (1 : Int32).toInt ≤ 5 ∧ 0 ≤ v_m_9.toInt ∧ v_m_9.toInt ≤ 9999 ∧ (v_m_7.toInt ≤ h35.toInt) ∧ ((1 : Int32).toInt ≤ 5 * (h35.toInt - v_m_7.toInt)) ∧ (h35.toInt ≤ v_m_3.toInt) from by omega) (Nat.le_of_ble_eq_true rfl) (Nat.le_of_ble_eq_true rfl) dX10_goOn_376
                        · have dc49 : x38.toInt < z48.toInt := fa_nle c49
                          refine lv_aload_n hx hb dX10_goOn_175 rfl (lv_at hl 0 rfl) ?_
                          refine lv_aload_n hx hb dX10_goOn_176 rfl (lv_at hl 0 rfl) ?_
                          refine k_get hC hK hP iX10 0 10 wf_X10_72 rfl (by decide) rfl rfl dX10_goOn_177 ?_
                          refine lv_bipush (v := 8) hx hb dX10_goOn_180 (by decide) ?_
                          refine lv_lshl hx hb dX10_goOn_182 rfl ?_
                          refine t_l (fun y57 => ?_)
                          refine lv_aload_n hx hb dX10_goOn_183 rfl (lv_at hl 0 rfl) ?_
                          refine lv_iload_n hx hb dX10_goOn_184 rfl (lv_at hl 2 rfl) ?_
                          refine k_ci (wr := []) (k_rV hC hN hZ hS hA hK hP hD (c2_X10_sign l G cI cJ cB cZ a0 a1 a2 a3 a4 a5 a6 a7 a8 a9 a10 a11 a12 a13 a14 a15 a16 a17 a18 a19 a20 a21 a22 a23 a24 a25 a26 a27 a28 a29 a30 a31 a32 a33 a34 a35 a36 a37 a38 a39 a40 a41 a42 x38 v_m_2 v_m_3 v_m_4 v_m_5 h1 h35 v_m_8 v_m_9 y39 v_m_44 v_m_45 v_m_46 v_m_47 v_m_49 v_m_53 v_m_54 v_m_55 v_m_56 v_m_57 v_m_58 v_m_59 v_m_60 v_m_62 v_m_67 v_m_68 g_m_text (by omega) hT_g_m_text) [0, 1] rfl (by decide) mi_X10_sign in_X10_sign se_X10_sign wm_X10_61 10 0 rfl rfl rfl hl.1 rfl rfl (Nat.le_of_ble_eq_true rfl) ⟨(Nat.le_of_ble_eq_true rfl), (Nat.le_of_ble_eq_true rfl)⟩ dX10_goOn_185 ⟨(Nat.le_of_ble_eq_true rfl), (Nat.le_of_ble_eq_true rfl)⟩) hP hD hS hA [0, 1] [] rfl rfl (by decide) (by decide) (fun r58 u58 H locs hp hP hD hS => ?_)
                          have hp : (0 ≤ r58.toInt ∧ r58.toInt ≤ 255 ∧ (r58.toInt = (sgn g_m_text v_m_3 x38).toInt) ∧ (r58.toInt = 0 ∨ x38.toInt < v_m_3.toInt)) := hp
                          have hP : va_P G cl [(a0, .inr (10, [.ref a1, .ref a2, .int v_m_2, .int v_m_3, .int v_m_4, .int v_m_5, .int h1, .int h35, .int v_m_8, .int v_m_9, .long y39, .ref a3, .ref a4, .ref a5, .ref a6, .ref a7, .ref a8, .ref a9, .ref a10, .ref a11, .ref a12, .ref a13, .ref a14, .ref a15, .ref a16, .ref a17, .ref a18, .ref a19, .ref a20, .ref a21, .ref a22, .ref a23, .ref a24, .ref a25, .ref a26, .ref a27, .ref a28, .ref a29, .ref a30, .ref a31, .int 0, .int 1, .ref a32, .ref a33, .int v_m_44, .int v_m_45, .int v_m_46, .int v_m_47, .ref a34, .int v_m_49, .ref a35, .ref a36, .ref a37, .int v_m_53, .int v_m_54, .int v_m_55, .int v_m_56, .int v_m_57, .int v_m_58, .int v_m_59, .int v_m_60, .ref a38, .int v_m_62, .ref a39, .ref a40, .ref a41, .ref a42, .int v_m_67, .int v_m_68])), (a2, .inl (cB, 1300, .inl g_m_text))] H := hP
                          have hD : va_D A [(a0, .inr (10, [.ref a1, .ref a2, .int v_m_2, .int v_m_3, .int v_m_4, .int v_m_5, .int h1, .int h35, .int v_m_8, .int v_m_9, .long y39, .ref a3, .ref a4, .ref a5, .ref a6, .ref a7, .ref a8, .ref a9, .ref a10, .ref a11, .ref a12, .ref a13, .ref a14, .ref a15, .ref a16, .ref a17, .ref a18, .ref a19, .ref a20, .ref a21, .ref a22, .ref a23, .ref a24, .ref a25, .ref a26, .ref a27, .ref a28, .ref a29, .ref a30, .ref a31, .int 0, .int 1, .ref a32, .ref a33, .int v_m_44, .int v_m_45, .int v_m_46, .int v_m_47, .ref a34, .int v_m_49, .ref a35, .ref a36, .ref a37, .int v_m_53, .int v_m_54, .int v_m_55, .int v_m_56, .int v_m_57, .int v_m_58, .int v_m_59, .int v_m_60, .ref a38, .int v_m_62, .ref a39, .ref a40, .ref a41, .ref a42, .int v_m_67, .int v_m_68])), (a2, .inl (cB, 1300, .inl g_m_text))] := hD
                          have hq58 := hp
                          refine lv_i2l hx hb dX10_goOn_188 rfl ?_
                          refine t_l (fun y59 => ?_)
                          refine lv_lor hx hb dX10_goOn_189 ?_
                          refine t_l (fun y60 => ?_)
                          refine k_put hC hK hP hD hS iX10 tyX10_ok nmX10 0 10 wf_X10_72 rfl (by decide) rfl rfl rfl rfl (Nat.le_of_ble_eq_true rfl) dX10_goOn_190 (fun H locs hP hD hS => ?_)
                          have hP : va_P G cl [(a0, .inr (10, [.ref a1, .ref a2, .int v_m_2, .int v_m_3, .int v_m_4, .int v_m_5, .int h1, .int h35, .int v_m_8, .int v_m_9, .long y60, .ref a3, .ref a4, .ref a5, .ref a6, .ref a7, .ref a8, .ref a9, .ref a10, .ref a11, .ref a12, .ref a13, .ref a14, .ref a15, .ref a16, .ref a17, .ref a18, .ref a19, .ref a20, .ref a21, .ref a22, .ref a23, .ref a24, .ref a25, .ref a26, .ref a27, .ref a28, .ref a29, .ref a30, .ref a31, .int 0, .int 1, .ref a32, .ref a33, .int v_m_44, .int v_m_45, .int v_m_46, .int v_m_47, .ref a34, .int v_m_49, .ref a35, .ref a36, .ref a37, .int v_m_53, .int v_m_54, .int v_m_55, .int v_m_56, .int v_m_57, .int v_m_58, .int v_m_59, .int v_m_60, .ref a38, .int v_m_62, .ref a39, .ref a40, .ref a41, .ref a42, .int v_m_67, .int v_m_68])), (a2, .inl (cB, 1300, .inl g_m_text))] H := hP
                          have hD : va_D A [(a0, .inr (10, [.ref a1, .ref a2, .int v_m_2, .int v_m_3, .int v_m_4, .int v_m_5, .int h1, .int h35, .int v_m_8, .int v_m_9, .long y60, .ref a3, .ref a4, .ref a5, .ref a6, .ref a7, .ref a8, .ref a9, .ref a10, .ref a11, .ref a12, .ref a13, .ref a14, .ref a15, .ref a16, .ref a17, .ref a18, .ref a19, .ref a20, .ref a21, .ref a22, .ref a23, .ref a24, .ref a25, .ref a26, .ref a27, .ref a28, .ref a29, .ref a30, .ref a31, .int 0, .int 1, .ref a32, .ref a33, .int v_m_44, .int v_m_45, .int v_m_46, .int v_m_47, .ref a34, .int v_m_49, .ref a35, .ref a36, .ref a37, .int v_m_53, .int v_m_54, .int v_m_55, .int v_m_56, .int v_m_57, .int v_m_58, .int v_m_59, .int v_m_60, .ref a38, .int v_m_62, .ref a39, .ref a40, .ref a41, .ref a42, .int v_m_67, .int v_m_68])), (a2, .inl (cB, 1300, .inl g_m_text))] := hD
                          obtain ⟨z61, ez61⟩ : ∃ q : Int32, q = x38 + Int32.ofInt 1 := ⟨_, rfl⟩
                          have tz61 : z61.toInt = x38.toInt + 1 := by rw [ez61]; exact add_i (y := 1) (by have p_ := i_lo x38; show _ ≤ _ + (1 : Int); omega) (by have q_ := i_hi x38; show _ + (1 : Int) ≤ _; omega)
                          refine lv_iinc (v := z61) (lv' := [(2, .int z61), (0, .ref a0), (1, .int r3)]) hx hb dX10_goOn_193 hl (k := 2) rfl ez61.symm (by decide) rfl (fun ls hl => ?_)
                          refine lv_goto (tgt := 156) hx hb dX10_goOn_196 (by decide) ?_
                          exact ih_156  z61 y60 H locs ls (by omega) (by omega) (hP.subm [0, 1] rfl) (hD.sub [0, 1] (by decide) rfl) hS (lv_sub hl [1, 2, 0] rfl)
                  exact L_156 1301 h1 0 H locs ls (by omega) (by omega) (hP.subm [0, 1] rfl) (hD.sub [0, 1] (by decide) rfl) hS (lv_sub hl [1, 2, 0] rfl)
                · have l_37 : (1 : Int32).toInt = 1 := rfl
                  refine lv_if_eq (tgt := 146) hx hb dX10_goOn_130 (by decide) (fun c_ => absurd c_ (by decide +kernel)) (fun _ => ?_)
                  have as62 : 0 ≤ h35.toInt ∧ h35.toInt ≤ 1299 := by omega
                  refine lv_aload_n hx hb dX10_goOn_133 rfl (lv_at hl 0 rfl) ?_
                  refine lv_dup hx hb dX10_goOn_134 rfl ?_
                  refine k_get hC hK hP iX10 0 7 wf_X10_55 rfl (by decide) rfl rfl dX10_goOn_135 ?_
                  refine lv_iconst (v := 1) hx hb dX10_goOn_138 (by decide) ?_
                  refine lv_iadd hx hb dX10_goOn_139 ?_
                  refine t_i (fun q => q.toInt = h35.toInt + 1) (add_i (by show (-2147483648 : Int) ≤ h35.toInt + 1; omega) (by show h35.toInt + 1 ≤ (2147483647 : Int); omega)) (fun z63 tz63 => ?_)
                  refine k_put hC hK hP hD hS iX10 tyX10_ok nmX10 0 7 wf_X10_55 rfl (by decide) rfl rfl rfl rfl (Nat.le_of_ble_eq_true rfl) dX10_goOn_140 (fun H locs hP hD hS => ?_)
                  have hP : va_P G cl [(a0, .inr (10, [.ref a1, .ref a2, .int v_m_2, .int v_m_3, .int v_m_4, .int v_m_5, .int h1, .int z63, .int v_m_8, .int v_m_9, .long w_m_10, .ref a3, .ref a4, .ref a5, .ref a6, .ref a7, .ref a8, .ref a9, .ref a10, .ref a11, .ref a12, .ref a13, .ref a14, .ref a15, .ref a16, .ref a17, .ref a18, .ref a19, .ref a20, .ref a21, .ref a22, .ref a23, .ref a24, .ref a25, .ref a26, .ref a27, .ref a28, .ref a29, .ref a30, .ref a31, .int 0, .int 1, .ref a32, .ref a33, .int v_m_44, .int v_m_45, .int v_m_46, .int v_m_47, .ref a34, .int v_m_49, .ref a35, .ref a36, .ref a37, .int v_m_53, .int v_m_54, .int v_m_55, .int v_m_56, .int v_m_57, .int v_m_58, .int v_m_59, .int v_m_60, .ref a38, .int v_m_62, .ref a39, .ref a40, .ref a41, .ref a42, .int v_m_67, .int v_m_68])), (a2, .inl (cB, 1300, .inl g_m_text))] H := hP
                  have hD : va_D A [(a0, .inr (10, [.ref a1, .ref a2, .int v_m_2, .int v_m_3, .int v_m_4, .int v_m_5, .int h1, .int z63, .int v_m_8, .int v_m_9, .long w_m_10, .ref a3, .ref a4, .ref a5, .ref a6, .ref a7, .ref a8, .ref a9, .ref a10, .ref a11, .ref a12, .ref a13, .ref a14, .ref a15, .ref a16, .ref a17, .ref a18, .ref a19, .ref a20, .ref a21, .ref a22, .ref a23, .ref a24, .ref a25, .ref a26, .ref a27, .ref a28, .ref a29, .ref a30, .ref a31, .int 0, .int 1, .ref a32, .ref a33, .int v_m_44, .int v_m_45, .int v_m_46, .int v_m_47, .ref a34, .int v_m_49, .ref a35, .ref a36, .ref a37, .int v_m_53, .int v_m_54, .int v_m_55, .int v_m_56, .int v_m_57, .int v_m_58, .int v_m_59, .int v_m_60, .ref a38, .int v_m_62, .ref a39, .ref a40, .ref a41, .ref a42, .int v_m_67, .int v_m_68])), (a2, .inl (cB, 1300, .inl g_m_text))] := hD
                  refine lv_goto (tgt := 119) hx hb dX10_goOn_143 (by decide) ?_
                  exact ih_119  z63 H locs ls (by omega) (by omega) (hP.subm [0, 1] rfl) (hD.sub [0, 1] (by decide) rfl) hS (lv_sub hl [0, 1] rfl)
            exact L_119 1300 z4 H locs ls (by omega) (by omega) (hP.subm [0, 1] rfl) (hD.sub [0, 1] (by decide) rfl) hS (lv_sub hl [1, 0] rfl)
        · have dc5 : v_m_3.toInt ≤ h1.toInt := fa_nlt c5
          refine lv_aload_n hx hb dX10_goOn_88 rfl (lv_at hl 1 rfl) ?_
          refine lv_iconst (v := 0) hx hb dX10_goOn_89 (by decide) ?_
          refine k_put hC hK hP hD hS iX10 tyX10_ok nmX10 0 8 wf_X10_65 rfl (by decide) rfl rfl rfl rfl (Nat.le_of_ble_eq_true rfl) dX10_goOn_90 (fun H locs hP hD hS => ?_)
          have hP : va_P G cl [(a0, .inr (10, [.ref a1, .ref a2, .int v_m_2, .int v_m_3, .int v_m_4, .int v_m_5, .int h1, .int z4, .int 0, .int v_m_9, .long w_m_10, .ref a3, .ref a4, .ref a5, .ref a6, .ref a7, .ref a8, .ref a9, .ref a10, .ref a11, .ref a12, .ref a13, .ref a14, .ref a15, .ref a16, .ref a17, .ref a18, .ref a19, .ref a20, .ref a21, .ref a22, .ref a23, .ref a24, .ref a25, .ref a26, .ref a27, .ref a28, .ref a29, .ref a30, .ref a31, .int 0, .int 1, .ref a32, .ref a33, .int v_m_44, .int v_m_45, .int v_m_46, .int v_m_47, .ref a34, .int v_m_49, .ref a35, .ref a36, .ref a37, .int v_m_53, .int v_m_54, .int v_m_55, .int v_m_56, .int v_m_57, .int v_m_58, .int v_m_59, .int v_m_60, .ref a38, .int v_m_62, .ref a39, .ref a40, .ref a41, .ref a42, .int v_m_67, .int v_m_68])), (a2, .inl (cB, 1300, .inl g_m_text))] H := hP
          have hD : va_D A [(a0, .inr (10, [.ref a1, .ref a2, .int v_m_2, .int v_m_3, .int v_m_4, .int v_m_5, .int h1, .int z4, .int 0, .int v_m_9, .long w_m_10, .ref a3, .ref a4, .ref a5, .ref a6, .ref a7, .ref a8, .ref a9, .ref a10, .ref a11, .ref a12, .ref a13, .ref a14, .ref a15, .ref a16, .ref a17, .ref a18, .ref a19, .ref a20, .ref a21, .ref a22, .ref a23, .ref a24, .ref a25, .ref a26, .ref a27, .ref a28, .ref a29, .ref a30, .ref a31, .int 0, .int 1, .ref a32, .ref a33, .int v_m_44, .int v_m_45, .int v_m_46, .int v_m_47, .ref a34, .int v_m_49, .ref a35, .ref a36, .ref a37, .int v_m_53, .int v_m_54, .int v_m_55, .int v_m_56, .int v_m_57, .int v_m_58, .int v_m_59, .int v_m_60, .ref a38, .int v_m_62, .ref a39, .ref a40, .ref a41, .ref a42, .int v_m_67, .int v_m_68])), (a2, .inl (cB, 1300, .inl g_m_text))] := hD
          refine lv_aload_n hx hb dX10_goOn_93 rfl (lv_at hl 1 rfl) ?_
          refine lv_aload_n hx hb dX10_goOn_94 rfl (lv_at hl 1 rfl) ?_
          refine k_get hC hK hP iX10 0 3 wf_X10_1 rfl (by decide) rfl rfl dX10_goOn_95 ?_
          refine k_put hC hK hP hD hS iX10 tyX10_ok nmX10 0 6 wf_X10_58 rfl (by decide) rfl rfl rfl rfl (Nat.le_of_ble_eq_true rfl) dX10_goOn_98 (fun H locs hP hD hS => ?_)
          have hP : va_P G cl [(a0, .inr (10, [.ref a1, .ref a2, .int v_m_2, .int v_m_3, .int v_m_4, .int v_m_5, .int v_m_3, .int z4, .int 0, .int v_m_9, .long w_m_10, .ref a3, .ref a4, .ref a5, .ref a6, .ref a7, .ref a8, .ref a9, .ref a10, .ref a11, .ref a12, .ref a13, .ref a14, .ref a15, .ref a16, .ref a17, .ref a18, .ref a19, .ref a20, .ref a21, .ref a22, .ref a23, .ref a24, .ref a25, .ref a26, .ref a27, .ref a28, .ref a29, .ref a30, .ref a31, .int 0, .int 1, .ref a32, .ref a33, .int v_m_44, .int v_m_45, .int v_m_46, .int v_m_47, .ref a34, .int v_m_49, .ref a35, .ref a36, .ref a37, .int v_m_53, .int v_m_54, .int v_m_55, .int v_m_56, .int v_m_57, .int v_m_58, .int v_m_59, .int v_m_60, .ref a38, .int v_m_62, .ref a39, .ref a40, .ref a41, .ref a42, .int v_m_67, .int v_m_68])), (a2, .inl (cB, 1300, .inl g_m_text))] H := hP
          have hD : va_D A [(a0, .inr (10, [.ref a1, .ref a2, .int v_m_2, .int v_m_3, .int v_m_4, .int v_m_5, .int v_m_3, .int z4, .int 0, .int v_m_9, .long w_m_10, .ref a3, .ref a4, .ref a5, .ref a6, .ref a7, .ref a8, .ref a9, .ref a10, .ref a11, .ref a12, .ref a13, .ref a14, .ref a15, .ref a16, .ref a17, .ref a18, .ref a19, .ref a20, .ref a21, .ref a22, .ref a23, .ref a24, .ref a25, .ref a26, .ref a27, .ref a28, .ref a29, .ref a30, .ref a31, .int 0, .int 1, .ref a32, .ref a33, .int v_m_44, .int v_m_45, .int v_m_46, .int v_m_47, .ref a34, .int v_m_49, .ref a35, .ref a36, .ref a37, .int v_m_53, .int v_m_54, .int v_m_55, .int v_m_56, .int v_m_57, .int v_m_58, .int v_m_59, .int v_m_60, .ref a38, .int v_m_62, .ref a39, .ref a40, .ref a41, .ref a42, .int v_m_67, .int v_m_68])), (a2, .inl (cB, 1300, .inl g_m_text))] := hD
          refine lv_aload_n hx hb dX10_goOn_101 rfl (lv_at hl 1 rfl) ?_
          refine lv_aload_n hx hb dX10_goOn_102 rfl (lv_at hl 1 rfl) ?_
          refine k_get hC hK hP iX10 0 3 wf_X10_1 rfl (by decide) rfl rfl dX10_goOn_103 ?_
          refine k_put hC hK hP hD hS iX10 tyX10_ok nmX10 0 7 wf_X10_55 rfl (by decide) rfl rfl rfl rfl (Nat.le_of_ble_eq_true rfl) dX10_goOn_106 (fun H locs hP hD hS => ?_)
          have hP : va_P G cl [(a0, .inr (10, [.ref a1, .ref a2, .int v_m_2, .int v_m_3, .int v_m_4, .int v_m_5, .int v_m_3, .int v_m_3, .int 0, .int v_m_9, .long w_m_10, .ref a3, .ref a4, .ref a5, .ref a6, .ref a7, .ref a8, .ref a9, .ref a10, .ref a11, .ref a12, .ref a13, .ref a14, .ref a15, .ref a16, .ref a17, .ref a18, .ref a19, .ref a20, .ref a21, .ref a22, .ref a23, .ref a24, .ref a25, .ref a26, .ref a27, .ref a28, .ref a29, .ref a30, .ref a31, .int 0, .int 1, .ref a32, .ref a33, .int v_m_44, .int v_m_45, .int v_m_46, .int v_m_47, .ref a34, .int v_m_49, .ref a35, .ref a36, .ref a37, .int v_m_53, .int v_m_54, .int v_m_55, .int v_m_56, .int v_m_57, .int v_m_58, .int v_m_59, .int v_m_60, .ref a38, .int v_m_62, .ref a39, .ref a40, .ref a41, .ref a42, .int v_m_67, .int v_m_68])), (a2, .inl (cB, 1300, .inl g_m_text))] H := hP
          have hD : va_D A [(a0, .inr (10, [.ref a1, .ref a2, .int v_m_2, .int v_m_3, .int v_m_4, .int v_m_5, .int v_m_3, .int v_m_3, .int 0, .int v_m_9, .long w_m_10, .ref a3, .ref a4, .ref a5, .ref a6, .ref a7, .ref a8, .ref a9, .ref a10, .ref a11, .ref a12, .ref a13, .ref a14, .ref a15, .ref a16, .ref a17, .ref a18, .ref a19, .ref a20, .ref a21, .ref a22, .ref a23, .ref a24, .ref a25, .ref a26, .ref a27, .ref a28, .ref a29, .ref a30, .ref a31, .int 0, .int 1, .ref a32, .ref a33, .int v_m_44, .int v_m_45, .int v_m_46, .int v_m_47, .ref a34, .int v_m_49, .ref a35, .ref a36, .ref a37, .int v_m_53, .int v_m_54, .int v_m_55, .int v_m_56, .int v_m_57, .int v_m_58, .int v_m_59, .int v_m_60, .ref a38, .int v_m_62, .ref a39, .ref a40, .ref a41, .ref a42, .int v_m_67, .int v_m_68])), (a2, .inl (cB, 1300, .inl g_m_text))] := hD
          refine lv_goto (tgt := 376) hx hb dX10_goOn_109 (by decide) ?_
          have l_l64 : (0 : Int32).toInt = 0 := rfl
          rw [← hQm]
          exact k_vret hC hr hlk hK hP hD hS (v_m_3, v_m_3, 0, v_m_9, w_m_10) [0, 1] rfl (by decide) (show 0 ≤ v_m_3.toInt ∧ v_m_3.toInt ≤ 1300 ∧ 0 ≤ v_m_3.toInt ∧ v_m_3.toInt ≤ 1300 ∧ 0 ≤ (0 : Int32).toInt ∧ (0 : Int32).toInt ≤ 5 ∧ 0 ≤ v_m_9.toInt ∧ v_m_9.toInt ≤ 9999 ∧ (v_m_7.toInt ≤ v_m_3.toInt) ∧ ((0 : Int32).toInt ≤ 5 * (v_m_3.toInt - v_m_7.toInt)) ∧ (v_m_3.toInt ≤ v_m_3.toInt) from by omega) (Nat.le_of_ble_eq_true rfl) (Nat.le_of_ble_eq_true rfl) dX10_goOn_376
      · have dc2 : h1.toInt < v_m_3.toInt := fa_nle c2
        refine lv_aload_n hx hb dX10_goOn_19 rfl (lv_at hl 0 rfl) ?_
        refine lv_aload_n hx hb dX10_goOn_20 rfl (lv_at hl 0 rfl) ?_
        refine k_get hC hK hP iX10 0 6 wf_X10_58 rfl (by decide) rfl rfl dX10_goOn_21 ?_
        refine k_ci (wr := []) (k_rV hC hN hZ hS hA hK hP hD (c2_X10_sign l G cI cJ cB cZ a0 a1 a2 a3 a4 a5 a6 a7 a8 a9 a10 a11 a12 a13 a14 a15 a16 a17 a18 a19 a20 a21 a22 a23 a24 a25 a26 a27 a28 a29 a30 a31 a32 a33 a34 a35 a36 a37 a38 a39 a40 a41 a42 h1 v_m_2 v_m_3 v_m_4 v_m_5 h1 v_m_7 v_m_8 v_m_9 w_m_10 v_m_44 v_m_45 v_m_46 v_m_47 v_m_49 v_m_53 v_m_54 v_m_55 v_m_56 v_m_57 v_m_58 v_m_59 v_m_60 v_m_62 v_m_67 v_m_68 g_m_text (by omega) hT_g_m_text) [0, 1] rfl (by decide) mi_X10_sign in_X10_sign se_X10_sign wm_X10_61 10 0 rfl rfl rfl hl.1 rfl rfl (Nat.le_of_ble_eq_true rfl) ⟨(Nat.le_of_ble_eq_true rfl), (Nat.le_of_ble_eq_true rfl)⟩ dX10_goOn_24 ⟨(Nat.le_of_ble_eq_true rfl), (Nat.le_of_ble_eq_true rfl)⟩) hP hD hS hA [0, 1] [] rfl rfl (by decide) (by decide) (fun r65 u65 H locs hp hP hD hS => ?_)
        have hp : (0 ≤ r65.toInt ∧ r65.toInt ≤ 255 ∧ (r65.toInt = (sgn g_m_text v_m_3 h1).toInt) ∧ (r65.toInt = 0 ∨ h1.toInt < v_m_3.toInt)) := hp
        have hP : va_P G cl [(a0, .inr (10, [.ref a1, .ref a2, .int v_m_2, .int v_m_3, .int v_m_4, .int v_m_5, .int h1, .int v_m_7, .int v_m_8, .int v_m_9, .long w_m_10, .ref a3, .ref a4, .ref a5, .ref a6, .ref a7, .ref a8, .ref a9, .ref a10, .ref a11, .ref a12, .ref a13, .ref a14, .ref a15, .ref a16, .ref a17, .ref a18, .ref a19, .ref a20, .ref a21, .ref a22, .ref a23, .ref a24, .ref a25, .ref a26, .ref a27, .ref a28, .ref a29, .ref a30, .ref a31, .int 0, .int 1, .ref a32, .ref a33, .int v_m_44, .int v_m_45, .int v_m_46, .int v_m_47, .ref a34, .int v_m_49, .ref a35, .ref a36, .ref a37, .int v_m_53, .int v_m_54, .int v_m_55, .int v_m_56, .int v_m_57, .int v_m_58, .int v_m_59, .int v_m_60, .ref a38, .int v_m_62, .ref a39, .ref a40, .ref a41, .ref a42, .int v_m_67, .int v_m_68])), (a2, .inl (cB, 1300, .inl g_m_text))] H := hP
        have hD : va_D A [(a0, .inr (10, [.ref a1, .ref a2, .int v_m_2, .int v_m_3, .int v_m_4, .int v_m_5, .int h1, .int v_m_7, .int v_m_8, .int v_m_9, .long w_m_10, .ref a3, .ref a4, .ref a5, .ref a6, .ref a7, .ref a8, .ref a9, .ref a10, .ref a11, .ref a12, .ref a13, .ref a14, .ref a15, .ref a16, .ref a17, .ref a18, .ref a19, .ref a20, .ref a21, .ref a22, .ref a23, .ref a24, .ref a25, .ref a26, .ref a27, .ref a28, .ref a29, .ref a30, .ref a31, .int 0, .int 1, .ref a32, .ref a33, .int v_m_44, .int v_m_45, .int v_m_46, .int v_m_47, .ref a34, .int v_m_49, .ref a35, .ref a36, .ref a37, .int v_m_53, .int v_m_54, .int v_m_55, .int v_m_56, .int v_m_57, .int v_m_58, .int v_m_59, .int v_m_60, .ref a38, .int v_m_62, .ref a39, .ref a40, .ref a41, .ref a42, .int v_m_67, .int v_m_68])), (a2, .inl (cB, 1300, .inl g_m_text))] := hD
        have hq65 := hp
        refine lv_bipush (v := 32) hx hb dX10_goOn_27 (by decide) ?_
        refine lv_icmp_eq (tgt := 45) hx hb dX10_goOn_29 (by decide) (fun c66 => ?_) (fun c66 => ?_)
        · have dc66 : r65.toInt = 32 := (fa_eq _ _).mp c66
          refine lv_aload_n hx hb dX10_goOn_45 rfl (lv_at hl 0 rfl) ?_
          refine lv_dup hx hb dX10_goOn_46 rfl ?_
          refine k_get hC hK hP iX10 0 6 wf_X10_58 rfl (by decide) rfl rfl dX10_goOn_47 ?_
          refine lv_iconst (v := 1) hx hb dX10_goOn_50 (by decide) ?_
          refine lv_iadd hx hb dX10_goOn_51 ?_
          refine t_i (fun q => q.toInt = h1.toInt + 1) (add_i (by show (-2147483648 : Int) ≤ h1.toInt + 1; omega) (by show h1.toInt + 1 ≤ (2147483647 : Int); omega)) (fun z67 tz67 => ?_)
          refine k_put hC hK hP hD hS iX10 tyX10_ok nmX10 0 6 wf_X10_58 rfl (by decide) rfl rfl rfl rfl (Nat.le_of_ble_eq_true rfl) dX10_goOn_52 (fun H locs hP hD hS => ?_)
          have hP : va_P G cl [(a0, .inr (10, [.ref a1, .ref a2, .int v_m_2, .int v_m_3, .int v_m_4, .int v_m_5, .int z67, .int v_m_7, .int v_m_8, .int v_m_9, .long w_m_10, .ref a3, .ref a4, .ref a5, .ref a6, .ref a7, .ref a8, .ref a9, .ref a10, .ref a11, .ref a12, .ref a13, .ref a14, .ref a15, .ref a16, .ref a17, .ref a18, .ref a19, .ref a20, .ref a21, .ref a22, .ref a23, .ref a24, .ref a25, .ref a26, .ref a27, .ref a28, .ref a29, .ref a30, .ref a31, .int 0, .int 1, .ref a32, .ref a33, .int v_m_44, .int v_m_45, .int v_m_46, .int v_m_47, .ref a34, .int v_m_49, .ref a35, .ref a36, .ref a37, .int v_m_53, .int v_m_54, .int v_m_55, .int v_m_56, .int v_m_57, .int v_m_58, .int v_m_59, .int v_m_60, .ref a38, .int v_m_62, .ref a39, .ref a40, .ref a41, .ref a42, .int v_m_67, .int v_m_68])), (a2, .inl (cB, 1300, .inl g_m_text))] H := hP
          have hD : va_D A [(a0, .inr (10, [.ref a1, .ref a2, .int v_m_2, .int v_m_3, .int v_m_4, .int v_m_5, .int z67, .int v_m_7, .int v_m_8, .int v_m_9, .long w_m_10, .ref a3, .ref a4, .ref a5, .ref a6, .ref a7, .ref a8, .ref a9, .ref a10, .ref a11, .ref a12, .ref a13, .ref a14, .ref a15, .ref a16, .ref a17, .ref a18, .ref a19, .ref a20, .ref a21, .ref a22, .ref a23, .ref a24, .ref a25, .ref a26, .ref a27, .ref a28, .ref a29, .ref a30, .ref a31, .int 0, .int 1, .ref a32, .ref a33, .int v_m_44, .int v_m_45, .int v_m_46, .int v_m_47, .ref a34, .int v_m_49, .ref a35, .ref a36, .ref a37, .int v_m_53, .int v_m_54, .int v_m_55, .int v_m_56, .int v_m_57, .int v_m_58, .int v_m_59, .int v_m_60, .ref a38, .int v_m_62, .ref a39, .ref a40, .ref a41, .ref a42, .int v_m_67, .int v_m_68])), (a2, .inl (cB, 1300, .inl g_m_text))] := hD
          refine lv_goto (tgt := 8) hx hb dX10_goOn_55 (by decide) ?_
          exact ih  z67 H locs ls (by omega) (by omega) (hP.subm [0, 1] rfl) (hD.sub [0, 1] (by decide) rfl) hS (lv_sub hl [0] rfl)
        · have dc66 : r65.toInt ≠ 32 := fa_ne c66
          refine lv_aload_n hx hb dX10_goOn_32 rfl (lv_at hl 0 rfl) ?_
          refine lv_aload_n hx hb dX10_goOn_33 rfl (lv_at hl 0 rfl) ?_
          refine k_get hC hK hP iX10 0 6 wf_X10_58 rfl (by decide) rfl rfl dX10_goOn_34 ?_
          refine k_ci (wr := []) (k_rV hC hN hZ hS hA hK hP hD (c2_X10_sign l G cI cJ cB cZ a0 a1 a2 a3 a4 a5 a6 a7 a8 a9 a10 a11 a12 a13 a14 a15 a16 a17 a18 a19 a20 a21 a22 a23 a24 a25 a26 a27 a28 a29 a30 a31 a32 a33 a34 a35 a36 a37 a38 a39 a40 a41 a42 h1 v_m_2 v_m_3 v_m_4 v_m_5 h1 v_m_7 v_m_8 v_m_9 w_m_10 v_m_44 v_m_45 v_m_46 v_m_47 v_m_49 v_m_53 v_m_54 v_m_55 v_m_56 v_m_57 v_m_58 v_m_59 v_m_60 v_m_62 v_m_67 v_m_68 g_m_text (by omega) hT_g_m_text) [0, 1] rfl (by decide) mi_X10_sign in_X10_sign se_X10_sign wm_X10_61 10 0 rfl rfl rfl hl.1 rfl rfl (Nat.le_of_ble_eq_true rfl) ⟨(Nat.le_of_ble_eq_true rfl), (Nat.le_of_ble_eq_true rfl)⟩ dX10_goOn_37 ⟨(Nat.le_of_ble_eq_true rfl), (Nat.le_of_ble_eq_true rfl)⟩) hP hD hS hA [0, 1] [] rfl rfl (by decide) (by decide) (fun r68 u68 H locs hp hP hD hS => ?_)
          have hp : (0 ≤ r68.toInt ∧ r68.toInt ≤ 255 ∧ (r68.toInt = (sgn g_m_text v_m_3 h1).toInt) ∧ (r68.toInt = 0 ∨ h1.toInt < v_m_3.toInt)) := hp
          have hP : va_P G cl [(a0, .inr (10, [.ref a1, .ref a2, .int v_m_2, .int v_m_3, .int v_m_4, .int v_m_5, .int h1, .int v_m_7, .int v_m_8, .int v_m_9, .long w_m_10, .ref a3, .ref a4, .ref a5, .ref a6, .ref a7, .ref a8, .ref a9, .ref a10, .ref a11, .ref a12, .ref a13, .ref a14, .ref a15, .ref a16, .ref a17, .ref a18, .ref a19, .ref a20, .ref a21, .ref a22, .ref a23, .ref a24, .ref a25, .ref a26, .ref a27, .ref a28, .ref a29, .ref a30, .ref a31, .int 0, .int 1, .ref a32, .ref a33, .int v_m_44, .int v_m_45, .int v_m_46, .int v_m_47, .ref a34, .int v_m_49, .ref a35, .ref a36, .ref a37, .int v_m_53, .int v_m_54, .int v_m_55, .int v_m_56, .int v_m_57, .int v_m_58, .int v_m_59, .int v_m_60, .ref a38, .int v_m_62, .ref a39, .ref a40, .ref a41, .ref a42, .int v_m_67, .int v_m_68])), (a2, .inl (cB, 1300, .inl g_m_text))] H := hP
          have hD : va_D A [(a0, .inr (10, [.ref a1, .ref a2, .int v_m_2, .int v_m_3, .int v_m_4, .int v_m_5, .int h1, .int v_m_7, .int v_m_8, .int v_m_9, .long w_m_10, .ref a3, .ref a4, .ref a5, .ref a6, .ref a7, .ref a8, .ref a9, .ref a10, .ref a11, .ref a12, .ref a13, .ref a14, .ref a15, .ref a16, .ref a17, .ref a18, .ref a19, .ref a20, .ref a21, .ref a22, .ref a23, .ref a24, .ref a25, .ref a26, .ref a27, .ref a28, .ref a29, .ref a30, .ref a31, .int 0, .int 1, .ref a32, .ref a33, .int v_m_44, .int v_m_45, .int v_m_46, .int v_m_47, .ref a34, .int v_m_49, .ref a35, .ref a36, .ref a37, .int v_m_53, .int v_m_54, .int v_m_55, .int v_m_56, .int v_m_57, .int v_m_58, .int v_m_59, .int v_m_60, .ref a38, .int v_m_62, .ref a39, .ref a40, .ref a41, .ref a42, .int v_m_67, .int v_m_68])), (a2, .inl (cB, 1300, .inl g_m_text))] := hD
          have hq68 := hp
          refine lv_bipush (v := 10) hx hb dX10_goOn_40 (by decide) ?_
          refine lv_icmp_ne (tgt := 58) hx hb dX10_goOn_42 (by decide) (fun c69 => ?_) (fun c69 => ?_)
          · have dc69 : r68.toInt ≠ 10 := fa_ne c69
            refine lv_aload_n hx hb dX10_goOn_58 rfl (lv_at hl 0 rfl) ?_
            refine lv_aload_n hx hb dX10_goOn_59 rfl (lv_at hl 0 rfl) ?_
            refine k_get hC hK hP iX10 0 6 wf_X10_58 rfl (by decide) rfl rfl dX10_goOn_60 ?_
            refine k_ci (wr := []) (k_rV hC hN hZ hS hA hK hP hD (c2_X10_sign l G cI cJ cB cZ a0 a1 a2 a3 a4 a5 a6 a7 a8 a9 a10 a11 a12 a13 a14 a15 a16 a17 a18 a19 a20 a21 a22 a23 a24 a25 a26 a27 a28 a29 a30 a31 a32 a33 a34 a35 a36 a37 a38 a39 a40 a41 a42 h1 v_m_2 v_m_3 v_m_4 v_m_5 h1 v_m_7 v_m_8 v_m_9 w_m_10 v_m_44 v_m_45 v_m_46 v_m_47 v_m_49 v_m_53 v_m_54 v_m_55 v_m_56 v_m_57 v_m_58 v_m_59 v_m_60 v_m_62 v_m_67 v_m_68 g_m_text (by omega) hT_g_m_text) [0, 1] rfl (by decide) mi_X10_sign in_X10_sign se_X10_sign wm_X10_61 10 0 rfl rfl rfl hl.1 rfl rfl (Nat.le_of_ble_eq_true rfl) ⟨(Nat.le_of_ble_eq_true rfl), (Nat.le_of_ble_eq_true rfl)⟩ dX10_goOn_63 ⟨(Nat.le_of_ble_eq_true rfl), (Nat.le_of_ble_eq_true rfl)⟩) hP hD hS hA [0, 1] [] rfl rfl (by decide) (by decide) (fun r70 u70 H locs hp hP hD hS => ?_)
            have hp : (0 ≤ r70.toInt ∧ r70.toInt ≤ 255 ∧ (r70.toInt = (sgn g_m_text v_m_3 h1).toInt) ∧ (r70.toInt = 0 ∨ h1.toInt < v_m_3.toInt)) := hp
            have hP : va_P G cl [(a0, .inr (10, [.ref a1, .ref a2, .int v_m_2, .int v_m_3, .int v_m_4, .int v_m_5, .int h1, .int v_m_7, .int v_m_8, .int v_m_9, .long w_m_10, .ref a3, .ref a4, .ref a5, .ref a6, .ref a7, .ref a8, .ref a9, .ref a10, .ref a11, .ref a12, .ref a13, .ref a14, .ref a15, .ref a16, .ref a17, .ref a18, .ref a19, .ref a20, .ref a21, .ref a22, .ref a23, .ref a24, .ref a25, .ref a26, .ref a27, .ref a28, .ref a29, .ref a30, .ref a31, .int 0, .int 1, .ref a32, .ref a33, .int v_m_44, .int v_m_45, .int v_m_46, .int v_m_47, .ref a34, .int v_m_49, .ref a35, .ref a36, .ref a37, .int v_m_53, .int v_m_54, .int v_m_55, .int v_m_56, .int v_m_57, .int v_m_58, .int v_m_59, .int v_m_60, .ref a38, .int v_m_62, .ref a39, .ref a40, .ref a41, .ref a42, .int v_m_67, .int v_m_68])), (a2, .inl (cB, 1300, .inl g_m_text))] H := hP
            have hD : va_D A [(a0, .inr (10, [.ref a1, .ref a2, .int v_m_2, .int v_m_3, .int v_m_4, .int v_m_5, .int h1, .int v_m_7, .int v_m_8, .int v_m_9, .long w_m_10, .ref a3, .ref a4, .ref a5, .ref a6, .ref a7, .ref a8, .ref a9, .ref a10, .ref a11, .ref a12, .ref a13, .ref a14, .ref a15, .ref a16, .ref a17, .ref a18, .ref a19, .ref a20, .ref a21, .ref a22, .ref a23, .ref a24, .ref a25, .ref a26, .ref a27, .ref a28, .ref a29, .ref a30, .ref a31, .int 0, .int 1, .ref a32, .ref a33, .int v_m_44, .int v_m_45, .int v_m_46, .int v_m_47, .ref a34, .int v_m_49, .ref a35, .ref a36, .ref a37, .int v_m_53, .int v_m_54, .int v_m_55, .int v_m_56, .int v_m_57, .int v_m_58, .int v_m_59, .int v_m_60, .ref a38, .int v_m_62, .ref a39, .ref a40, .ref a41, .ref a42, .int v_m_67, .int v_m_68])), (a2, .inl (cB, 1300, .inl g_m_text))] := hD
            have hq70 := hp
            refine lv_istore_n (lv' := [(1, .int r70), (0, .ref a0)]) hx hb dX10_goOn_66 rfl hl (by decide) rfl (fun ls hl => ?_)
            refine lv_aload_n hx hb dX10_goOn_67 rfl (lv_at hl 1 rfl) ?_
            refine lv_aload_n hx hb dX10_goOn_68 rfl (lv_at hl 1 rfl) ?_
            refine k_get hC hK hP iX10 0 6 wf_X10_58 rfl (by decide) rfl rfl dX10_goOn_69 ?_
            refine lv_iconst (v := 1) hx hb dX10_goOn_72 (by decide) ?_
            refine lv_iadd hx hb dX10_goOn_73 ?_
            refine t_i (fun q => q.toInt = h1.toInt + 1) (add_i (by show (-2147483648 : Int) ≤ h1.toInt + 1; omega) (by show h1.toInt + 1 ≤ (2147483647 : Int); omega)) (fun z71 tz71 => ?_)
            refine k_put hC hK hP hD hS iX10 tyX10_ok nmX10 0 7 wf_X10_55 rfl (by decide) rfl rfl rfl rfl (Nat.le_of_ble_eq_true rfl) dX10_goOn_74 (fun H locs hP hD hS => ?_)
            have hP : va_P G cl [(a0, .inr (10, [.ref a1, .ref a2, .int v_m_2, .int v_m_3, .int v_m_4, .int v_m_5, .int h1, .int z71, .int v_m_8, .int v_m_9, .long w_m_10, .ref a3, .ref a4, .ref a5, .ref a6, .ref a7, .ref a8, .ref a9, .ref a10, .ref a11, .ref a12, .ref a13, .ref a14, .ref a15, .ref a16, .ref a17, .ref a18, .ref a19, .ref a20, .ref a21, .ref a22, .ref a23, .ref a24, .ref a25, .ref a26, .ref a27, .ref a28, .ref a29, .ref a30, .ref a31, .int 0, .int 1, .ref a32, .ref a33, .int v_m_44, .int v_m_45, .int v_m_46, .int v_m_47, .ref a34, .int v_m_49, .ref a35, .ref a36, .ref a37, .int v_m_53, .int v_m_54, .int v_m_55, .int v_m_56, .int v_m_57, .int v_m_58, .int v_m_59, .int v_m_60, .ref a38, .int v_m_62, .ref a39, .ref a40, .ref a41, .ref a42, .int v_m_67, .int v_m_68])), (a2, .inl (cB, 1300, .inl g_m_text))] H := hP
            have hD : va_D A [(a0, .inr (10, [.ref a1, .ref a2, .int v_m_2, .int v_m_3, .int v_m_4, .int v_m_5, .int h1, .int z71, .int v_m_8, .int v_m_9, .long w_m_10, .ref a3, .ref a4, .ref a5, .ref a6, .ref a7, .ref a8, .ref a9, .ref a10, .ref a11, .ref a12, .ref a13, .ref a14, .ref a15, .ref a16, .ref a17, .ref a18, .ref a19, .ref a20, .ref a21, .ref a22, .ref a23, .ref a24, .ref a25, .ref a26, .ref a27, .ref a28, .ref a29, .ref a30, .ref a31, .int 0, .int 1, .ref a32, .ref a33, .int v_m_44, .int v_m_45, .int v_m_46, .int v_m_47, .ref a34, .int v_m_49, .ref a35, .ref a36, .ref a37, .int v_m_53, .int v_m_54, .int v_m_55, .int v_m_56, .int v_m_57, .int v_m_58, .int v_m_59, .int v_m_60, .ref a38, .int v_m_62, .ref a39, .ref a40, .ref a41, .ref a42, .int v_m_67, .int v_m_68])), (a2, .inl (cB, 1300, .inl g_m_text))] := hD
            refine lv_aload_n hx hb dX10_goOn_77 rfl (lv_at hl 1 rfl) ?_
            refine k_get hC hK hP iX10 0 6 wf_X10_58 rfl (by decide) rfl rfl dX10_goOn_78 ?_
            refine lv_aload_n hx hb dX10_goOn_81 rfl (lv_at hl 1 rfl) ?_
            refine k_get hC hK hP iX10 0 3 wf_X10_1 rfl (by decide) rfl rfl dX10_goOn_82 ?_
            refine lv_icmp_lt (tgt := 112) hx hb dX10_goOn_85 (by decide) (fun c72 => ?_) (fun c72 => ?_)
            · have dc72 : h1.toInt < v_m_3.toInt := (fa_lt _ _).mp c72
              refine lv_iload_n hx hb dX10_goOn_112 rfl (lv_at hl 0 rfl) ?_
              refine k_ci (wr := [(a0, .inr (10, [.ref a1, .ref a2, .int v_m_2, .int v_m_3, .int v_m_4, .int v_m_5, .int h1, .int z71, .int v_m_8, .int v_m_9, .long w_m_10, .ref a3, .ref a4, .ref a5, .ref a6, .ref a7, .ref a8, .ref a9, .ref a10, .ref a11, .ref a12, .ref a13, .ref a14, .ref a15, .ref a16, .ref a17, .ref a18, .ref a19, .ref a20, .ref a21, .ref a22, .ref a23, .ref a24, .ref a25, .ref a26, .ref a27, .ref a28, .ref a29, .ref a30, .ref a31, .int 0, .int 1, .ref a32, .ref a33, .int v_m_44, .int v_m_45, .int v_m_46, .int v_m_47, .ref a34, .int v_m_49, .ref a35, .ref a36, .ref a37, .int v_m_53, .int v_m_54, .int v_m_55, .int v_m_56, .int v_m_57, .int v_m_58, .int v_m_59, .int v_m_60, .ref a38, .int v_m_62, .ref a39, .ref a40, .ref a41, .ref a42, .int v_m_67, .int v_m_68])), (a2, .inl (cB, 1300, .inl g_m_text))]) (k_rS hC hN hZ hS hA hK hP hD (c3_X10_isLetter l G cI cJ cB cZ r70) [] rfl (by decide) mi_X10_isLetter st_X10_isLetter wm_X10_68 hl.1 rfl rfl (Nat.le_of_ble_eq_true rfl) ⟨(Nat.le_of_ble_eq_true rfl), (Nat.le_of_ble_eq_true rfl)⟩ dX10_goOn_113 ⟨(Nat.le_of_ble_eq_true rfl), (Nat.le_of_ble_eq_true rfl)⟩) hP hD hS hA [] [0, 1] rfl rfl (by decide) (by decide) (fun r73 u73 H locs hp hP hD hS => ?_)
              have hP : va_P G cl [(a0, .inr (10, [.ref a1, .ref a2, .int v_m_2, .int v_m_3, .int v_m_4, .int v_m_5, .int h1, .int z71, .int v_m_8, .int v_m_9, .long w_m_10, .ref a3, .ref a4, .ref a5, .ref a6, .ref a7, .ref a8, .ref a9, .ref a10, .ref a11, .ref a12, .ref a13, .ref a14, .ref a15, .ref a16, .ref a17, .ref a18, .ref a19, .ref a20, .ref a21, .ref a22, .ref a23, .ref a24, .ref a25, .ref a26, .ref a27, .ref a28, .ref a29, .ref a30, .ref a31, .int 0, .int 1, .ref a32, .ref a33, .int v_m_44, .int v_m_45, .int v_m_46, .int v_m_47, .ref a34, .int v_m_49, .ref a35, .ref a36, .ref a37, .int v_m_53, .int v_m_54, .int v_m_55, .int v_m_56, .int v_m_57, .int v_m_58, .int v_m_59, .int v_m_60, .ref a38, .int v_m_62, .ref a39, .ref a40, .ref a41, .ref a42, .int v_m_67, .int v_m_68])), (a2, .inl (cB, 1300, .inl g_m_text))] H := hP
              have hD : va_D A [(a0, .inr (10, [.ref a1, .ref a2, .int v_m_2, .int v_m_3, .int v_m_4, .int v_m_5, .int h1, .int z71, .int v_m_8, .int v_m_9, .long w_m_10, .ref a3, .ref a4, .ref a5, .ref a6, .ref a7, .ref a8, .ref a9, .ref a10, .ref a11, .ref a12, .ref a13, .ref a14, .ref a15, .ref a16, .ref a17, .ref a18, .ref a19, .ref a20, .ref a21, .ref a22, .ref a23, .ref a24, .ref a25, .ref a26, .ref a27, .ref a28, .ref a29, .ref a30, .ref a31, .int 0, .int 1, .ref a32, .ref a33, .int v_m_44, .int v_m_45, .int v_m_46, .int v_m_47, .ref a34, .int v_m_49, .ref a35, .ref a36, .ref a37, .int v_m_53, .int v_m_54, .int v_m_55, .int v_m_56, .int v_m_57, .int v_m_58, .int v_m_59, .int v_m_60, .ref a38, .int v_m_62, .ref a39, .ref a40, .ref a41, .ref a42, .int v_m_67, .int v_m_68])), (a2, .inl (cB, 1300, .inl g_m_text))] := hD
              rcases (show (r73 = 0 ∧ (True)) ∨ (r73 = 1 ∧ (97 ≤ r70.toInt ∧ r70.toInt ≤ 122)) from hp) with ⟨rfl, hq73⟩ | ⟨rfl, hq73⟩
              · have l_73 : (0 : Int32).toInt = 0 := rfl
                refine lv_if_eq (tgt := 239) hx hb dX10_goOn_116 (by decide) (fun _ => ?_) (fun c_ => absurd (by decide +kernel) c_)
                refine lv_iload_n hx hb dX10_goOn_239 rfl (lv_at hl 0 rfl) ?_
                refine k_ci (wr := [(a0, .inr (10, [.ref a1, .ref a2, .int v_m_2, .int v_m_3, .int v_m_4, .int v_m_5, .int h1, .int z71, .int v_m_8, .int v_m_9, .long w_m_10, .ref a3, .ref a4, .ref a5, .ref a6, .ref a7, .ref a8, .ref a9, .ref a10, .ref a11, .ref a12, .ref a13, .ref a14, .ref a15, .ref a16, .ref a17, .ref a18, .ref a19, .ref a20, .ref a21, .ref a22, .ref a23, .ref a24, .ref a25, .ref a26, .ref a27, .ref a28, .ref a29, .ref a30, .ref a31, .int 0, .int 1, .ref a32, .ref a33, .int v_m_44, .int v_m_45, .int v_m_46, .int v_m_47, .ref a34, .int v_m_49, .ref a35, .ref a36, .ref a37, .int v_m_53, .int v_m_54, .int v_m_55, .int v_m_56, .int v_m_57, .int v_m_58, .int v_m_59, .int v_m_60, .ref a38, .int v_m_62, .ref a39, .ref a40, .ref a41, .ref a42, .int v_m_67, .int v_m_68])), (a2, .inl (cB, 1300, .inl g_m_text))]) (k_rS hC hN hZ hS hA hK hP hD (c4_X10_isDigit l G cI cJ cB cZ r70) [] rfl (by decide) mi_X10_isDigit st_X10_isDigit wm_X10_80 hl.1 rfl rfl (Nat.le_of_ble_eq_true rfl) ⟨(Nat.le_of_ble_eq_true rfl), (Nat.le_of_ble_eq_true rfl)⟩ dX10_goOn_240 ⟨(Nat.le_of_ble_eq_true rfl), (Nat.le_of_ble_eq_true rfl)⟩) hP hD hS hA [] [0, 1] rfl rfl (by decide) (by decide) (fun r74 u74 H locs hp hP hD hS => ?_)
                have hP : va_P G cl [(a0, .inr (10, [.ref a1, .ref a2, .int v_m_2, .int v_m_3, .int v_m_4, .int v_m_5, .int h1, .int z71, .int v_m_8, .int v_m_9, .long w_m_10, .ref a3, .ref a4, .ref a5, .ref a6, .ref a7, .ref a8, .ref a9, .ref a10, .ref a11, .ref a12, .ref a13, .ref a14, .ref a15, .ref a16, .ref a17, .ref a18, .ref a19, .ref a20, .ref a21, .ref a22, .ref a23, .ref a24, .ref a25, .ref a26, .ref a27, .ref a28, .ref a29, .ref a30, .ref a31, .int 0, .int 1, .ref a32, .ref a33, .int v_m_44, .int v_m_45, .int v_m_46, .int v_m_47, .ref a34, .int v_m_49, .ref a35, .ref a36, .ref a37, .int v_m_53, .int v_m_54, .int v_m_55, .int v_m_56, .int v_m_57, .int v_m_58, .int v_m_59, .int v_m_60, .ref a38, .int v_m_62, .ref a39, .ref a40, .ref a41, .ref a42, .int v_m_67, .int v_m_68])), (a2, .inl (cB, 1300, .inl g_m_text))] H := hP
                have hD : va_D A [(a0, .inr (10, [.ref a1, .ref a2, .int v_m_2, .int v_m_3, .int v_m_4, .int v_m_5, .int h1, .int z71, .int v_m_8, .int v_m_9, .long w_m_10, .ref a3, .ref a4, .ref a5, .ref a6, .ref a7, .ref a8, .ref a9, .ref a10, .ref a11, .ref a12, .ref a13, .ref a14, .ref a15, .ref a16, .ref a17, .ref a18, .ref a19, .ref a20, .ref a21, .ref a22, .ref a23, .ref a24, .ref a25, .ref a26, .ref a27, .ref a28, .ref a29, .ref a30, .ref a31, .int 0, .int 1, .ref a32, .ref a33, .int v_m_44, .int v_m_45, .int v_m_46, .int v_m_47, .ref a34, .int v_m_49, .ref a35, .ref a36, .ref a37, .int v_m_53, .int v_m_54, .int v_m_55, .int v_m_56, .int v_m_57, .int v_m_58, .int v_m_59, .int v_m_60, .ref a38, .int v_m_62, .ref a39, .ref a40, .ref a41, .ref a42, .int v_m_67, .int v_m_68])), (a2, .inl (cB, 1300, .inl g_m_text))] := hD
                rcases (show (r74 = 0 ∧ ((r74.toInt ≠ 0 ∨ r70.toInt < 48 ∨ 57 < r70.toInt))) ∨ (r74 = 1 ∧ ((r74.toInt ≠ 0 ∨ r70.toInt < 48 ∨ 57 < r70.toInt) ∧ 48 ≤ r70.toInt ∧ r70.toInt ≤ 57)) from hp) with ⟨rfl, hq74⟩ | ⟨rfl, hq74⟩
                · have l_74 : (0 : Int32).toInt = 0 := rfl
                  refine lv_if_eq (tgt := 361) hx hb dX10_goOn_243 (by decide) (fun _ => ?_) (fun c_ => absurd (by decide +kernel) c_)
                  refine lv_aload_n hx hb dX10_goOn_361 rfl (lv_at hl 1 rfl) ?_
                  refine lv_iload_n hx hb dX10_goOn_362 rfl (lv_at hl 0 rfl) ?_
                  refine lv_bipush (v := 59) hx hb dX10_goOn_363 (by decide) ?_
                  refine lv_icmp_ne (tgt := 372) hx hb dX10_goOn_365 (by decide) (fun c75 => ?_) (fun c75 => ?_)
                  · have dc75 : r70.toInt ≠ 59 := fa_ne c75
                    refine lv_iconst (v := 1) hx hb dX10_goOn_372 (by decide) ?_
                    refine k_put hC hK hP hD hS iX10 tyX10_ok nmX10 0 8 wf_X10_65 rfl (by decide) rfl rfl rfl rfl (Nat.le_of_ble_eq_true rfl) dX10_goOn_373 (fun H locs hP hD hS => ?_)
                    have hP : va_P G cl [(a0, .inr (10, [.ref a1, .ref a2, .int v_m_2, .int v_m_3, .int v_m_4, .int v_m_5, .int h1, .int z71, .int 1, .int v_m_9, .long w_m_10, .ref a3, .ref a4, .ref a5, .ref a6, .ref a7, .ref a8, .ref a9, .ref a10, .ref a11, .ref a12, .ref a13, .ref a14, .ref a15, .ref a16, .ref a17, .ref a18, .ref a19, .ref a20, .ref a21, .ref a22, .ref a23, .ref a24, .ref a25, .ref a26, .ref a27, .ref a28, .ref a29, .ref a30, .ref a31, .int 0, .int 1, .ref a32, .ref a33, .int v_m_44, .int v_m_45, .int v_m_46, .int v_m_47, .ref a34, .int v_m_49, .ref a35, .ref a36, .ref a37, .int v_m_53, .int v_m_54, .int v_m_55, .int v_m_56, .int v_m_57, .int v_m_58, .int v_m_59, .int v_m_60, .ref a38, .int v_m_62, .ref a39, .ref a40, .ref a41, .ref a42, .int v_m_67, .int v_m_68])), (a2, .inl (cB, 1300, .inl g_m_text))] H := hP
                    have hD : va_D A [(a0, .inr (10, [.ref a1, .ref a2, .int v_m_2, .int v_m_3, .int v_m_4, .int v_m_5, .int h1, .int z71, .int 1, .int v_m_9, .long w_m_10, .ref a3, .ref a4, .ref a5, .ref a6, .ref a7, .ref a8, .ref a9, .ref a10, .ref a11, .ref a12, .ref a13, .ref a14, .ref a15, .ref a16, .ref a17, .ref a18, .ref a19, .ref a20, .ref a21, .ref a22, .ref a23, .ref a24, .ref a25, .ref a26, .ref a27, .ref a28, .ref a29, .ref a30, .ref a31, .int 0, .int 1, .ref a32, .ref a33, .int v_m_44, .int v_m_45, .int v_m_46, .int v_m_47, .ref a34, .int v_m_49, .ref a35, .ref a36, .ref a37, .int v_m_53, .int v_m_54, .int v_m_55, .int v_m_56, .int v_m_57, .int v_m_58, .int v_m_59, .int v_m_60, .ref a38, .int v_m_62, .ref a39, .ref a40, .ref a41, .ref a42, .int v_m_67, .int v_m_68])), (a2, .inl (cB, 1300, .inl g_m_text))] := hD
                    have l_l76 : (1 : Int32).toInt = 1 := rfl
                    rw [← hQm]
                    exact k_vret hC hr hlk hK hP hD hS (h1, z71, 1, v_m_9, w_m_10) [0, 1] rfl (by decide) (show 0 ≤ h1.toInt ∧ h1.toInt ≤ 1300 ∧ 0 ≤ z71.toInt ∧ z71.toInt ≤ 1300 ∧ 0 ≤ (1 : Int32).toInt ∧ (1 : Int32).toInt ≤ 5 ∧ 0 ≤ v_m_9.toInt ∧ v_m_9.toInt ≤ 9999 ∧ (v_m_7.toInt ≤ z71.toInt) ∧ ((1 : Int32).toInt ≤ 5 * (z71.toInt - v_m_7.toInt)) ∧ (z71.toInt ≤ v_m_3.toInt) from by omega) (Nat.le_of_ble_eq_true rfl) (Nat.le_of_ble_eq_true rfl) dX10_goOn_376
                  · have dc75 : r70.toInt = 59 := (fa_eq _ _).mp c75
                    refine lv_iconst (v := 5) hx hb dX10_goOn_368 (by decide) ?_
                    refine lv_goto (tgt := 373) hx hb dX10_goOn_369 (by decide) ?_
                    refine k_put hC hK hP hD hS iX10 tyX10_ok nmX10 0 8 wf_X10_65 rfl (by decide) rfl rfl rfl rfl (Nat.le_of_ble_eq_true rfl) dX10_goOn_373 (fun H locs hP hD hS => ?_)
                    have hP : va_P G cl [(a0, .inr (10, [.ref a1, .ref a2, .int v_m_2, .int v_m_3, .int v_m_4, .int v_m_5, .int h1, .int z71, .int 5, .int v_m_9, .long w_m_10, .ref a3, .ref a4, .ref a5, .ref a6, .ref a7, .ref a8, .ref a9, .ref a10, .ref a11, .ref a12, .ref a13, .ref a14, .ref a15, .ref a16, .ref a17, .ref a18, .ref a19, .ref a20, .ref a21, .ref a22, .ref a23, .ref a24, .ref a25, .ref a26, .ref a27, .ref a28, .ref a29, .ref a30, .ref a31, .int 0, .int 1, .ref a32, .ref a33, .int v_m_44, .int v_m_45, .int v_m_46, .int v_m_47, .ref a34, .int v_m_49, .ref a35, .ref a36, .ref a37, .int v_m_53, .int v_m_54, .int v_m_55, .int v_m_56, .int v_m_57, .int v_m_58, .int v_m_59, .int v_m_60, .ref a38, .int v_m_62, .ref a39, .ref a40, .ref a41, .ref a42, .int v_m_67, .int v_m_68])), (a2, .inl (cB, 1300, .inl g_m_text))] H := hP
                    have hD : va_D A [(a0, .inr (10, [.ref a1, .ref a2, .int v_m_2, .int v_m_3, .int v_m_4, .int v_m_5, .int h1, .int z71, .int 5, .int v_m_9, .long w_m_10, .ref a3, .ref a4, .ref a5, .ref a6, .ref a7, .ref a8, .ref a9, .ref a10, .ref a11, .ref a12, .ref a13, .ref a14, .ref a15, .ref a16, .ref a17, .ref a18, .ref a19, .ref a20, .ref a21, .ref a22, .ref a23, .ref a24, .ref a25, .ref a26, .ref a27, .ref a28, .ref a29, .ref a30, .ref a31, .int 0, .int 1, .ref a32, .ref a33, .int v_m_44, .int v_m_45, .int v_m_46, .int v_m_47, .ref a34, .int v_m_49, .ref a35, .ref a36, .ref a37, .int v_m_53, .int v_m_54, .int v_m_55, .int v_m_56, .int v_m_57, .int v_m_58, .int v_m_59, .int v_m_60, .ref a38, .int v_m_62, .ref a39, .ref a40, .ref a41, .ref a42, .int v_m_67, .int v_m_68])), (a2, .inl (cB, 1300, .inl g_m_text))] := hD
                    have l_l77 : (5 : Int32).toInt = 5 := rfl
                    rw [← hQm]
                    exact k_vret hC hr hlk hK hP hD hS (h1, z71, 5, v_m_9, w_m_10) [0, 1] rfl (by decide) (show 0 ≤ h1.toInt ∧ h1.toInt ≤ 1300 ∧ 0 ≤ z71.toInt ∧ z71.toInt ≤ 1300 ∧ 0 ≤ (5 : Int32).toInt ∧ (5 : Int32).toInt ≤ 5 ∧ 0 ≤ v_m_9.toInt ∧ v_m_9.toInt ≤ 9999 ∧ (v_m_7.toInt ≤ z71.toInt) ∧ ((5 : Int32).toInt ≤ 5 * (z71.toInt - v_m_7.toInt)) ∧ (z71.toInt ≤ v_m_3.toInt) from by omega) (Nat.le_of_ble_eq_true rfl) (Nat.le_of_ble_eq_true rfl) dX10_goOn_376
                · have l_74 : (1 : Int32).toInt = 1 := rfl
                  refine lv_if_eq (tgt := 361) hx hb dX10_goOn_243 (by decide) (fun c_ => absurd c_ (by decide +kernel)) (fun _ => ?_)
                  refine lv_aload_n hx hb dX10_goOn_246 rfl (lv_at hl 1 rfl) ?_
                  refine lv_iconst (v := 0) hx hb dX10_goOn_247 (by decide) ?_
                  refine k_put hC hK hP hD hS iX10 tyX10_ok nmX10 0 9 wf_X10_83 rfl (by decide) rfl rfl rfl rfl (Nat.le_of_ble_eq_true rfl) dX10_goOn_248 (fun H locs hP hD hS => ?_)
                  have hP : va_P G cl [(a0, .inr (10, [.ref a1, .ref a2, .int v_m_2, .int v_m_3, .int v_m_4, .int v_m_5, .int h1, .int z71, .int v_m_8, .int 0, .long w_m_10, .ref a3, .ref a4, .ref a5, .ref a6, .ref a7, .ref a8, .ref a9, .ref a10, .ref a11, .ref a12, .ref a13, .ref a14, .ref a15, .ref a16, .ref a17, .ref a18, .ref a19, .ref a20, .ref a21, .ref a22, .ref a23, .ref a24, .ref a25, .ref a26, .ref a27, .ref a28, .ref a29, .ref a30, .ref a31, .int 0, .int 1, .ref a32, .ref a33, .int v_m_44, .int v_m_45, .int v_m_46, .int v_m_47, .ref a34, .int v_m_49, .ref a35, .ref a36, .ref a37, .int v_m_53, .int v_m_54, .int v_m_55, .int v_m_56, .int v_m_57, .int v_m_58, .int v_m_59, .int v_m_60, .ref a38, .int v_m_62, .ref a39, .ref a40, .ref a41, .ref a42, .int v_m_67, .int v_m_68])), (a2, .inl (cB, 1300, .inl g_m_text))] H := hP
                  have hD : va_D A [(a0, .inr (10, [.ref a1, .ref a2, .int v_m_2, .int v_m_3, .int v_m_4, .int v_m_5, .int h1, .int z71, .int v_m_8, .int 0, .long w_m_10, .ref a3, .ref a4, .ref a5, .ref a6, .ref a7, .ref a8, .ref a9, .ref a10, .ref a11, .ref a12, .ref a13, .ref a14, .ref a15, .ref a16, .ref a17, .ref a18, .ref a19, .ref a20, .ref a21, .ref a22, .ref a23, .ref a24, .ref a25, .ref a26, .ref a27, .ref a28, .ref a29, .ref a30, .ref a31, .int 0, .int 1, .ref a32, .ref a33, .int v_m_44, .int v_m_45, .int v_m_46, .int v_m_47, .ref a34, .int v_m_49, .ref a35, .ref a36, .ref a37, .int v_m_53, .int v_m_54, .int v_m_55, .int v_m_56, .int v_m_57, .int v_m_58, .int v_m_59, .int v_m_60, .ref a38, .int v_m_62, .ref a39, .ref a40, .ref a41, .ref a42, .int v_m_67, .int v_m_68])), (a2, .inl (cB, 1300, .inl g_m_text))] := hD
                  refine lv_aload_n hx hb dX10_goOn_251 rfl (lv_at hl 1 rfl) ?_
                  refine lv_aload_n hx hb dX10_goOn_252 rfl (lv_at hl 1 rfl) ?_
                  refine k_get hC hK hP iX10 0 6 wf_X10_58 rfl (by decide) rfl rfl dX10_goOn_253 ?_
                  refine k_put hC hK hP hD hS iX10 tyX10_ok nmX10 0 7 wf_X10_55 rfl (by decide) rfl rfl rfl rfl (Nat.le_of_ble_eq_true rfl) dX10_goOn_256 (fun H locs hP hD hS => ?_)
                  have hP : va_P G cl [(a0, .inr (10, [.ref a1, .ref a2, .int v_m_2, .int v_m_3, .int v_m_4, .int v_m_5, .int h1, .int h1, .int v_m_8, .int 0, .long w_m_10, .ref a3, .ref a4, .ref a5, .ref a6, .ref a7, .ref a8, .ref a9, .ref a10, .ref a11, .ref a12, .ref a13, .ref a14, .ref a15, .ref a16, .ref a17, .ref a18, .ref a19, .ref a20, .ref a21, .ref a22, .ref a23, .ref a24, .ref a25, .ref a26, .ref a27, .ref a28, .ref a29, .ref a30, .ref a31, .int 0, .int 1, .ref a32, .ref a33, .int v_m_44, .int v_m_45, .int v_m_46, .int v_m_47, .ref a34, .int v_m_49, .ref a35, .ref a36, .ref a37, .int v_m_53, .int v_m_54, .int v_m_55, .int v_m_56, .int v_m_57, .int v_m_58, .int v_m_59, .int v_m_60, .ref a38, .int v_m_62, .ref a39, .ref a40, .ref a41, .ref a42, .int v_m_67, .int v_m_68])), (a2, .inl (cB, 1300, .inl g_m_text))] H := hP
                  have hD : va_D A [(a0, .inr (10, [.ref a1, .ref a2, .int v_m_2, .int v_m_3, .int v_m_4, .int v_m_5, .int h1, .int h1, .int v_m_8, .int 0, .long w_m_10, .ref a3, .ref a4, .ref a5, .ref a6, .ref a7, .ref a8, .ref a9, .ref a10, .ref a11, .ref a12, .ref a13, .ref a14, .ref a15, .ref a16, .ref a17, .ref a18, .ref a19, .ref a20, .ref a21, .ref a22, .ref a23, .ref a24, .ref a25, .ref a26, .ref a27, .ref a28, .ref a29, .ref a30, .ref a31, .int 0, .int 1, .ref a32, .ref a33, .int v_m_44, .int v_m_45, .int v_m_46, .int v_m_47, .ref a34, .int v_m_49, .ref a35, .ref a36, .ref a37, .int v_m_53, .int v_m_54, .int v_m_55, .int v_m_56, .int v_m_57, .int v_m_58, .int v_m_59, .int v_m_60, .ref a38, .int v_m_62, .ref a39, .ref a40, .ref a41, .ref a42, .int v_m_67, .int v_m_68])), (a2, .inl (cB, 1300, .inl g_m_text))] := hD
                  have L_259 : ∀ (n : Nat) (h78 : Int32) (h79 : Int32) (H : Heap) (locs : List Loc) (ls : Array Slot), (0 ≤ h78.toInt ∧ h78.toInt ≤ 1300 ∧ 0 ≤ h79.toInt ∧ h79.toInt ≤ 9999 ∧ ((h78.toInt - h1.toInt = 0 ∧ h79.toInt = 0) ∨ (h78.toInt - h1.toInt = 1 ∧ h79.toInt ≤ 9) ∨ (h78.toInt - h1.toInt = 2 ∧ h79.toInt ≤ 99) ∨ (h78.toInt - h1.toInt = 3 ∧ h79.toInt ≤ 999) ∨ (4 ≤ h78.toInt - h1.toInt ∧ h79.toInt ≤ 9999)) ∧ (h1.toInt ≤ h78.toInt) ∧ (h78.toInt ≤ v_m_3.toInt) ∧ (h78.toInt ≠ h1.toInt ∨ (sgn g_m_text v_m_3 h78).toInt = (sgn g_m_text v_m_3 h1).toInt)) → 1300 - h78.toInt < (n : Int) → va_P G cl [(a0, .inr (10, [.ref a1, .ref a2, .int v_m_2, .int v_m_3, .int v_m_4, .int v_m_5, .int h1, .int h78, .int v_m_8, .int h79, .long w_m_10, .ref a3, .ref a4, .ref a5, .ref a6, .ref a7, .ref a8, .ref a9, .ref a10, .ref a11, .ref a12, .ref a13, .ref a14, .ref a15, .ref a16, .ref a17, .ref a18, .ref a19, .ref a20, .ref a21, .ref a22, .ref a23, .ref a24, .ref a25, .ref a26, .ref a27, .ref a28, .ref a29, .ref a30, .ref a31, .int 0, .int 1, .ref a32, .ref a33, .int v_m_44, .int v_m_45, .int v_m_46, .int v_m_47, .ref a34, .int v_m_49, .ref a35, .ref a36, .ref a37, .int v_m_53, .int v_m_54, .int v_m_55, .int v_m_56, .int v_m_57, .int v_m_58, .int v_m_59, .int v_m_60, .ref a38, .int v_m_62, .ref a39, .ref a40, .ref a41, .ref a42, .int v_m_67, .int v_m_68])), (a2, .inl (cB, 1300, .inl g_m_text))] H → va_D A [(a0, .inr (10, [.ref a1, .ref a2, .int v_m_2, .int v_m_3, .int v_m_4, .int v_m_5, .int h1, .int h78, .int v_m_8, .int h79, .long w_m_10, .ref a3, .ref a4, .ref a5, .ref a6, .ref a7, .ref a8, .ref a9, .ref a10, .ref a11, .ref a12, .ref a13, .ref a14, .ref a15, .ref a16, .ref a17, .ref a18, .ref a19, .ref a20, .ref a21, .ref a22, .ref a23, .ref a24, .ref a25, .ref a26, .ref a27, .ref a28, .ref a29, .ref a30, .ref a31, .int 0, .int 1, .ref a32, .ref a33, .int v_m_44, .int v_m_45, .int v_m_46, .int v_m_47, .ref a34, .int v_m_49, .ref a35, .ref a36, .ref a37, .int v_m_53, .int v_m_54, .int v_m_55, .int v_m_56, .int v_m_57, .int v_m_58, .int v_m_59, .int v_m_60, .ref a38, .int v_m_62, .ref a39, .ref a40, .ref a41, .ref a42, .int v_m_67, .int v_m_68])), (a2, .inl (cB, 1300, .inl g_m_text))] → va_S A s.heap H locs → lv_has ls 3 [(0, .ref a0), (1, .int r70)] → W p l e ({ frames := 1, cells := 0, slots := 0, locals := 22 } : Room) s m args below meth c H locs 0 0 Qm (F0 m 259 ls []) := by
                    intro n
                    induction n with
                    | zero => intro h78 h79 H locs ls hv hm; omega
                    | succ n ih_259 =>
                      intro h78 h79 H locs ls hv hm hP hD hS hl
                      refine lv_aload_n hx hb dX10_goOn_259 rfl (lv_at hl 0 rfl) ?_
                      refine lv_aload_n hx hb dX10_goOn_260 rfl (lv_at hl 0 rfl) ?_
                      refine k_get hC hK hP iX10 0 7 wf_X10_55 rfl (by decide) rfl rfl dX10_goOn_261 ?_
                      refine k_ci (wr := []) (k_rV hC hN hZ hS hA hK hP hD (c2_X10_sign l G cI cJ cB cZ a0 a1 a2 a3 a4 a5 a6 a7 a8 a9 a10 a11 a12 a13 a14 a15 a16 a17 a18 a19 a20 a21 a22 a23 a24 a25 a26 a27 a28 a29 a30 a31 a32 a33 a34 a35 a36 a37 a38 a39 a40 a41 a42 h78 v_m_2 v_m_3 v_m_4 v_m_5 h1 h78 v_m_8 h79 w_m_10 v_m_44 v_m_45 v_m_46 v_m_47 v_m_49 v_m_53 v_m_54 v_m_55 v_m_56 v_m_57 v_m_58 v_m_59 v_m_60 v_m_62 v_m_67 v_m_68 g_m_text (by omega) hT_g_m_text) [0, 1] rfl (by decide) mi_X10_sign in_X10_sign se_X10_sign wm_X10_61 10 0 rfl rfl rfl hl.1 rfl rfl (Nat.le_of_ble_eq_true rfl) ⟨(Nat.le_of_ble_eq_true rfl), (Nat.le_of_ble_eq_true rfl)⟩ dX10_goOn_264 ⟨(Nat.le_of_ble_eq_true rfl), (Nat.le_of_ble_eq_true rfl)⟩) hP hD hS hA [0, 1] [] rfl rfl (by decide) (by decide) (fun r80 u80 H locs hp hP hD hS => ?_)
                      have hp : (0 ≤ r80.toInt ∧ r80.toInt ≤ 255 ∧ (r80.toInt = (sgn g_m_text v_m_3 h78).toInt) ∧ (r80.toInt = 0 ∨ h78.toInt < v_m_3.toInt)) := hp
                      have hP : va_P G cl [(a0, .inr (10, [.ref a1, .ref a2, .int v_m_2, .int v_m_3, .int v_m_4, .int v_m_5, .int h1, .int h78, .int v_m_8, .int h79, .long w_m_10, .ref a3, .ref a4, .ref a5, .ref a6, .ref a7, .ref a8, .ref a9, .ref a10, .ref a11, .ref a12, .ref a13, .ref a14, .ref a15, .ref a16, .ref a17, .ref a18, .ref a19, .ref a20, .ref a21, .ref a22, .ref a23, .ref a24, .ref a25, .ref a26, .ref a27, .ref a28, .ref a29, .ref a30, .ref a31, .int 0, .int 1, .ref a32, .ref a33, .int v_m_44, .int v_m_45, .int v_m_46, .int v_m_47, .ref a34, .int v_m_49, .ref a35, .ref a36, .ref a37, .int v_m_53, .int v_m_54, .int v_m_55, .int v_m_56, .int v_m_57, .int v_m_58, .int v_m_59, .int v_m_60, .ref a38, .int v_m_62, .ref a39, .ref a40, .ref a41, .ref a42, .int v_m_67, .int v_m_68])), (a2, .inl (cB, 1300, .inl g_m_text))] H := hP
                      have hD : va_D A [(a0, .inr (10, [.ref a1, .ref a2, .int v_m_2, .int v_m_3, .int v_m_4, .int v_m_5, .int h1, .int h78, .int v_m_8, .int h79, .long w_m_10, .ref a3, .ref a4, .ref a5, .ref a6, .ref a7, .ref a8, .ref a9, .ref a10, .ref a11, .ref a12, .ref a13, .ref a14, .ref a15, .ref a16, .ref a17, .ref a18, .ref a19, .ref a20, .ref a21, .ref a22, .ref a23, .ref a24, .ref a25, .ref a26, .ref a27, .ref a28, .ref a29, .ref a30, .ref a31, .int 0, .int 1, .ref a32, .ref a33, .int v_m_44, .int v_m_45, .int v_m_46, .int v_m_47, .ref a34, .int v_m_49, .ref a35, .ref a36, .ref a37, .int v_m_53, .int v_m_54, .int v_m_55, .int v_m_56, .int v_m_57, .int v_m_58, .int v_m_59, .int v_m_60, .ref a38, .int v_m_62, .ref a39, .ref a40, .ref a41, .ref a42, .int v_m_67, .int v_m_68])), (a2, .inl (cB, 1300, .inl g_m_text))] := hD
                      have hq80 := hp
                      refine k_ci (wr := [(a0, .inr (10, [.ref a1, .ref a2, .int v_m_2, .int v_m_3, .int v_m_4, .int v_m_5, .int h1, .int h78, .int v_m_8, .int h79, .long w_m_10, .ref a3, .ref a4, .ref a5, .ref a6, .ref a7, .ref a8, .ref a9, .ref a10, .ref a11, .ref a12, .ref a13, .ref a14, .ref a15, .ref a16, .ref a17, .ref a18, .ref a19, .ref a20, .ref a21, .ref a22, .ref a23, .ref a24, .ref a25, .ref a26, .ref a27, .ref a28, .ref a29, .ref a30, .ref a31, .int 0, .int 1, .ref a32, .ref a33, .int v_m_44, .int v_m_45, .int v_m_46, .int v_m_47, .ref a34, .int v_m_49, .ref a35, .ref a36, .ref a37, .int v_m_53, .int v_m_54, .int v_m_55, .int v_m_56, .int v_m_57, .int v_m_58, .int v_m_59, .int v_m_60, .ref a38, .int v_m_62, .ref a39, .ref a40, .ref a41, .ref a42, .int v_m_67, .int v_m_68])), (a2, .inl (cB, 1300, .inl g_m_text))]) (k_rS hC hN hZ hS hA hK hP hD (c4_X10_isDigit l G cI cJ cB cZ r80) [] rfl (by decide) mi_X10_isDigit st_X10_isDigit wm_X10_80 hl.1 rfl rfl (Nat.le_of_ble_eq_true rfl) ⟨(Nat.le_of_ble_eq_true rfl), (Nat.le_of_ble_eq_true rfl)⟩ dX10_goOn_267 ⟨(Nat.le_of_ble_eq_true rfl), (Nat.le_of_ble_eq_true rfl)⟩) hP hD hS hA [] [0, 1] rfl rfl (by decide) (by decide) (fun r81 u81 H locs hp hP hD hS => ?_)
                      have hP : va_P G cl [(a0, .inr (10, [.ref a1, .ref a2, .int v_m_2, .int v_m_3, .int v_m_4, .int v_m_5, .int h1, .int h78, .int v_m_8, .int h79, .long w_m_10, .ref a3, .ref a4, .ref a5, .ref a6, .ref a7, .ref a8, .ref a9, .ref a10, .ref a11, .ref a12, .ref a13, .ref a14, .ref a15, .ref a16, .ref a17, .ref a18, .ref a19, .ref a20, .ref a21, .ref a22, .ref a23, .ref a24, .ref a25, .ref a26, .ref a27, .ref a28, .ref a29, .ref a30, .ref a31, .int 0, .int 1, .ref a32, .ref a33, .int v_m_44, .int v_m_45, .int v_m_46, .int v_m_47, .ref a34, .int v_m_49, .ref a35, .ref a36, .ref a37, .int v_m_53, .int v_m_54, .int v_m_55, .int v_m_56, .int v_m_57, .int v_m_58, .int v_m_59, .int v_m_60, .ref a38, .int v_m_62, .ref a39, .ref a40, .ref a41, .ref a42, .int v_m_67, .int v_m_68])), (a2, .inl (cB, 1300, .inl g_m_text))] H := hP
                      have hD : va_D A [(a0, .inr (10, [.ref a1, .ref a2, .int v_m_2, .int v_m_3, .int v_m_4, .int v_m_5, .int h1, .int h78, .int v_m_8, .int h79, .long w_m_10, .ref a3, .ref a4, .ref a5, .ref a6, .ref a7, .ref a8, .ref a9, .ref a10, .ref a11, .ref a12, .ref a13, .ref a14, .ref a15, .ref a16, .ref a17, .ref a18, .ref a19, .ref a20, .ref a21, .ref a22, .ref a23, .ref a24, .ref a25, .ref a26, .ref a27, .ref a28, .ref a29, .ref a30, .ref a31, .int 0, .int 1, .ref a32, .ref a33, .int v_m_44, .int v_m_45, .int v_m_46, .int v_m_47, .ref a34, .int v_m_49, .ref a35, .ref a36, .ref a37, .int v_m_53, .int v_m_54, .int v_m_55, .int v_m_56, .int v_m_57, .int v_m_58, .int v_m_59, .int v_m_60, .ref a38, .int v_m_62, .ref a39, .ref a40, .ref a41, .ref a42, .int v_m_67, .int v_m_68])), (a2, .inl (cB, 1300, .inl g_m_text))] := hD
                      rcases (show (r81 = 0 ∧ ((r81.toInt ≠ 0 ∨ r80.toInt < 48 ∨ 57 < r80.toInt))) ∨ (r81 = 1 ∧ ((r81.toInt ≠ 0 ∨ r80.toInt < 48 ∨ 57 < r80.toInt) ∧ 48 ≤ r80.toInt ∧ r80.toInt ≤ 57)) from hp) with ⟨rfl, hq81⟩ | ⟨rfl, hq81⟩
                      · have l_81 : (0 : Int32).toInt = 0 := rfl
                        refine lv_if_eq (tgt := 322) hx hb dX10_goOn_270 (by decide) (fun _ => ?_) (fun c_ => absurd (by decide +kernel) c_)
                        refine lv_aload_n hx hb dX10_goOn_322 rfl (lv_at hl 0 rfl) ?_
                        refine lv_aload_n hx hb dX10_goOn_323 rfl (lv_at hl 0 rfl) ?_
                        refine k_get hC hK hP iX10 0 7 wf_X10_55 rfl (by decide) rfl rfl dX10_goOn_324 ?_
                        refine lv_aload_n hx hb dX10_goOn_327 rfl (lv_at hl 0 rfl) ?_
                        refine k_get hC hK hP iX10 0 6 wf_X10_58 rfl (by decide) rfl rfl dX10_goOn_328 ?_
                        refine lv_isub hx hb dX10_goOn_331 ?_
                        refine t_i (fun q => q.toInt = h78.toInt - h1.toInt) (sub_i (by show (-2147483648 : Int) ≤ h78.toInt - h1.toInt; omega) (by show h78.toInt - h1.toInt ≤ (2147483647 : Int); omega)) (fun z82 tz82 => ?_)
                        refine lv_iconst (v := 4) hx hb dX10_goOn_332 (by decide) ?_
                        refine lv_icmp_gt (tgt := 350) hx hb dX10_goOn_333 (by decide) (fun c83 => ?_) (fun c83 => ?_)
                        · have dc83 : 4 < z82.toInt := (fa_lt _ _).mp c83
                          refine lv_iconst (v := 1) hx hb dX10_goOn_350 (by decide) ?_
                          refine lv_goto (tgt := 355) hx hb dX10_goOn_351 (by decide) ?_
                          refine k_put hC hK hP hD hS iX10 tyX10_ok nmX10 0 8 wf_X10_65 rfl (by decide) rfl rfl rfl rfl (Nat.le_of_ble_eq_true rfl) dX10_goOn_355 (fun H locs hP hD hS => ?_)
                          have hP : va_P G cl [(a0, .inr (10, [.ref a1, .ref a2, .int v_m_2, .int v_m_3, .int v_m_4, .int v_m_5, .int h1, .int h78, .int 1, .int h79, .long w_m_10, .ref a3, .ref a4, .ref a5, .ref a6, .ref a7, .ref a8, .ref a9, .ref a10, .ref a11, .ref a12, .ref a13, .ref a14, .ref a15, .ref a16, .ref a17, .ref a18, .ref a19, .ref a20, .ref a21, .ref a22, .ref a23, .ref a24, .ref a25, .ref a26, .ref a27, .ref a28, .ref a29, .ref a30, .ref a31, .int 0, .int 1, .ref a32, .ref a33, .int v_m_44, .int v_m_45, .int v_m_46, .int v_m_47, .ref a34, .int v_m_49, .ref a35, .ref a36, .ref a37, .int v_m_53, .int v_m_54, .int v_m_55, .int v_m_56, .int v_m_57, .int v_m_58, .int v_m_59, .int v_m_60, .ref a38, .int v_m_62, .ref a39, .ref a40, .ref a41, .ref a42, .int v_m_67, .int v_m_68])), (a2, .inl (cB, 1300, .inl g_m_text))] H := hP
                          have hD : va_D A [(a0, .inr (10, [.ref a1, .ref a2, .int v_m_2, .int v_m_3, .int v_m_4, .int v_m_5, .int h1, .int h78, .int 1, .int h79, .long w_m_10, .ref a3, .ref a4, .ref a5, .ref a6, .ref a7, .ref a8, .ref a9, .ref a10, .ref a11, .ref a12, .ref a13, .ref a14, .ref a15, .ref a16, .ref a17, .ref a18, .ref a19, .ref a20, .ref a21, .ref a22, .ref a23, .ref a24, .ref a25, .ref a26, .ref a27, .ref a28, .ref a29, .ref a30, .ref a31, .int 0, .int 1, .ref a32, .ref a33, .int v_m_44, .int v_m_45, .int v_m_46, .int v_m_47, .ref a34, .int v_m_49, .ref a35, .ref a36, .ref a37, .int v_m_53, .int v_m_54, .int v_m_55, .int v_m_56, .int v_m_57, .int v_m_58, .int v_m_59, .int v_m_60, .ref a38, .int v_m_62, .ref a39, .ref a40, .ref a41, .ref a42, .int v_m_67, .int v_m_68])), (a2, .inl (cB, 1300, .inl g_m_text))] := hD
                          refine lv_goto (tgt := 376) hx hb dX10_goOn_358 (by decide) ?_
                          have l_l84 : (1 : Int32).toInt = 1 := rfl
                          rw [← hQm]
                          exact k_vret hC hr hlk hK hP hD hS (h1, h78, 1, h79, w_m_10) [0, 1] rfl (by decide) (show 0 ≤ h1.toInt ∧ h1.toInt ≤ 1300 ∧ 0 ≤ h78.toInt ∧ h78.toInt ≤ 1300 ∧ 0 ≤ (1 : Int32).toInt ∧ (1 : Int32).toInt ≤ 5 ∧ 0 ≤ h79.toInt ∧ h79.toInt ≤ 9999 ∧ (v_m_7.toInt ≤ h78.toInt) ∧ ((1 : Int32).toInt ≤ 5 * (h78.toInt - v_m_7.toInt)) ∧ (h78.toInt ≤ v_m_3.toInt) from by omega) (Nat.le_of_ble_eq_true rfl) (Nat.le_of_ble_eq_true rfl) dX10_goOn_376
                        · have dc83 : z82.toInt ≤ 4 := fa_nlt c83
                          refine lv_aload_n hx hb dX10_goOn_336 rfl (lv_at hl 0 rfl) ?_
                          refine lv_aload_n hx hb dX10_goOn_337 rfl (lv_at hl 0 rfl) ?_
                          refine k_get hC hK hP iX10 0 7 wf_X10_55 rfl (by decide) rfl rfl dX10_goOn_338 ?_
                          refine k_ci (wr := []) (k_rV hC hN hZ hS hA hK hP hD (c2_X10_sign l G cI cJ cB cZ a0 a1 a2 a3 a4 a5 a6 a7 a8 a9 a10 a11 a12 a13 a14 a15 a16 a17 a18 a19 a20 a21 a22 a23 a24 a25 a26 a27 a28 a29 a30 a31 a32 a33 a34 a35 a36 a37 a38 a39 a40 a41 a42 h78 v_m_2 v_m_3 v_m_4 v_m_5 h1 h78 v_m_8 h79 w_m_10 v_m_44 v_m_45 v_m_46 v_m_47 v_m_49 v_m_53 v_m_54 v_m_55 v_m_56 v_m_57 v_m_58 v_m_59 v_m_60 v_m_62 v_m_67 v_m_68 g_m_text (by omega) hT_g_m_text) [0, 1] rfl (by decide) mi_X10_sign in_X10_sign se_X10_sign wm_X10_61 10 0 rfl rfl rfl hl.1 rfl rfl (Nat.le_of_ble_eq_true rfl) ⟨(Nat.le_of_ble_eq_true rfl), (Nat.le_of_ble_eq_true rfl)⟩ dX10_goOn_341 ⟨(Nat.le_of_ble_eq_true rfl), (Nat.le_of_ble_eq_true rfl)⟩) hP hD hS hA [0, 1] [] rfl rfl (by decide) (by decide) (fun r85 u85 H locs hp hP hD hS => ?_)
                          have hp : (0 ≤ r85.toInt ∧ r85.toInt ≤ 255 ∧ (r85.toInt = (sgn g_m_text v_m_3 h78).toInt) ∧ (r85.toInt = 0 ∨ h78.toInt < v_m_3.toInt)) := hp
                          have hP : va_P G cl [(a0, .inr (10, [.ref a1, .ref a2, .int v_m_2, .int v_m_3, .int v_m_4, .int v_m_5, .int h1, .int h78, .int v_m_8, .int h79, .long w_m_10, .ref a3, .ref a4, .ref a5, .ref a6, .ref a7, .ref a8, .ref a9, .ref a10, .ref a11, .ref a12, .ref a13, .ref a14, .ref a15, .ref a16, .ref a17, .ref a18, .ref a19, .ref a20, .ref a21, .ref a22, .ref a23, .ref a24, .ref a25, .ref a26, .ref a27, .ref a28, .ref a29, .ref a30, .ref a31, .int 0, .int 1, .ref a32, .ref a33, .int v_m_44, .int v_m_45, .int v_m_46, .int v_m_47, .ref a34, .int v_m_49, .ref a35, .ref a36, .ref a37, .int v_m_53, .int v_m_54, .int v_m_55, .int v_m_56, .int v_m_57, .int v_m_58, .int v_m_59, .int v_m_60, .ref a38, .int v_m_62, .ref a39, .ref a40, .ref a41, .ref a42, .int v_m_67, .int v_m_68])), (a2, .inl (cB, 1300, .inl g_m_text))] H := hP
                          have hD : va_D A [(a0, .inr (10, [.ref a1, .ref a2, .int v_m_2, .int v_m_3, .int v_m_4, .int v_m_5, .int h1, .int h78, .int v_m_8, .int h79, .long w_m_10, .ref a3, .ref a4, .ref a5, .ref a6, .ref a7, .ref a8, .ref a9, .ref a10, .ref a11, .ref a12, .ref a13, .ref a14, .ref a15, .ref a16, .ref a17, .ref a18, .ref a19, .ref a20, .ref a21, .ref a22, .ref a23, .ref a24, .ref a25, .ref a26, .ref a27, .ref a28, .ref a29, .ref a30, .ref a31, .int 0, .int 1, .ref a32, .ref a33, .int v_m_44, .int v_m_45, .int v_m_46, .int v_m_47, .ref a34, .int v_m_49, .ref a35, .ref a36, .ref a37, .int v_m_53, .int v_m_54, .int v_m_55, .int v_m_56, .int v_m_57, .int v_m_58, .int v_m_59, .int v_m_60, .ref a38, .int v_m_62, .ref a39, .ref a40, .ref a41, .ref a42, .int v_m_67, .int v_m_68])), (a2, .inl (cB, 1300, .inl g_m_text))] := hD
                          have hq85 := hp
                          refine k_ci (wr := [(a0, .inr (10, [.ref a1, .ref a2, .int v_m_2, .int v_m_3, .int v_m_4, .int v_m_5, .int h1, .int h78, .int v_m_8, .int h79, .long w_m_10, .ref a3, .ref a4, .ref a5, .ref a6, .ref a7, .ref a8, .ref a9, .ref a10, .ref a11, .ref a12, .ref a13, .ref a14, .ref a15, .ref a16, .ref a17, .ref a18, .ref a19, .ref a20, .ref a21, .ref a22, .ref a23, .ref a24, .ref a25, .ref a26, .ref a27, .ref a28, .ref a29, .ref a30, .ref a31, .int 0, .int 1, .ref a32, .ref a33, .int v_m_44, .int v_m_45, .int v_m_46, .int v_m_47, .ref a34, .int v_m_49, .ref a35, .ref a36, .ref a37, .int v_m_53, .int v_m_54, .int v_m_55, .int v_m_56, .int v_m_57, .int v_m_58, .int v_m_59, .int v_m_60, .ref a38, .int v_m_62, .ref a39, .ref a40, .ref a41, .ref a42, .int v_m_67, .int v_m_68])), (a2, .inl (cB, 1300, .inl g_m_text))]) (k_rS hC hN hZ hS hA hK hP hD (c3_X10_isLetter l G cI cJ cB cZ r85) [] rfl (by decide) mi_X10_isLetter st_X10_isLetter wm_X10_68 hl.1 rfl rfl (Nat.le_of_ble_eq_true rfl) ⟨(Nat.le_of_ble_eq_true rfl), (Nat.le_of_ble_eq_true rfl)⟩ dX10_goOn_344 ⟨(Nat.le_of_ble_eq_true rfl), (Nat.le_of_ble_eq_true rfl)⟩) hP hD hS hA [] [0, 1] rfl rfl (by decide) (by decide) (fun r86 u86 H locs hp hP hD hS => ?_)
                          have hP : va_P G cl [(a0, .inr (10, [.ref a1, .ref a2, .int v_m_2, .int v_m_3, .int v_m_4, .int v_m_5, .int h1, .int h78, .int v_m_8, .int h79, .long w_m_10, .ref a3, .ref a4, .ref a5, .ref a6, .ref a7, .ref a8, .ref a9, .ref a10, .ref a11, .ref a12, .ref a13, .ref a14, .ref a15, .ref a16, .ref a17, .ref a18, .ref a19, .ref a20, .ref a21, .ref a22, .ref a23, .ref a24, .ref a25, .ref a26, .ref a27, .ref a28, .ref a29, .ref a30, .ref a31, .int 0, .int 1, .ref a32, .ref a33, .int v_m_44, .int v_m_45, .int v_m_46, .int v_m_47, .ref a34, .int v_m_49, .ref a35, .ref a36, .ref a37, .int v_m_53, .int v_m_54, .int v_m_55, .int v_m_56, .int v_m_57, .int v_m_58, .int v_m_59, .int v_m_60, .ref a38, .int v_m_62, .ref a39, .ref a40, .ref a41, .ref a42, .int v_m_67, .int v_m_68])), (a2, .inl (cB, 1300, .inl g_m_text))] H := hP
                          have hD : va_D A [(a0, .inr (10, [.ref a1, .ref a2, .int v_m_2, .int v_m_3, .int v_m_4, .int v_m_5, .int h1, .int h78, .int v_m_8, .int h79, .long w_m_10, .ref a3, .ref a4, .ref a5, .ref a6, .ref a7, .ref a8, .ref a9, .ref a10, .ref a11, .ref a12, .ref a13, .ref a14, .ref a15, .ref a16, .ref a17, .ref a18, .ref a19, .ref a20, .ref a21, .ref a22, .ref a23, .ref a24, .ref a25, .ref a26, .ref a27, .ref a28, .ref a29, .ref a30, .ref a31, .int 0, .int 1, .ref a32, .ref a33, .int v_m_44, .int v_m_45, .int v_m_46, .int v_m_47, .ref a34, .int v_m_49, .ref a35, .ref a36, .ref a37, .int v_m_53, .int v_m_54, .int v_m_55, .int v_m_56, .int v_m_57, .int v_m_58, .int v_m_59, .int v_m_60, .ref a38, .int v_m_62, .ref a39, .ref a40, .ref a41, .ref a42, .int v_m_67, .int v_m_68])), (a2, .inl (cB, 1300, .inl g_m_text))] := hD
                          rcases (show (r86 = 0 ∧ (True)) ∨ (r86 = 1 ∧ (97 ≤ r85.toInt ∧ r85.toInt ≤ 122)) from hp) with ⟨rfl, hq86⟩ | ⟨rfl, hq86⟩
                          · have l_86 : (0 : Int32).toInt = 0 := rfl
                            refine lv_if_eq (tgt := 354) hx hb dX10_goOn_347 (by decide) (fun _ => ?_) (fun c_ => absurd (by decide +kernel) c_)
                            refine lv_iconst (v := 4) hx hb dX10_goOn_354 (by decide) ?_
                            refine k_put hC hK hP hD hS iX10 tyX10_ok nmX10 0 8 wf_X10_65 rfl (by decide) rfl rfl rfl rfl (Nat.le_of_ble_eq_true rfl) dX10_goOn_355 (fun H locs hP hD hS => ?_)
                            have hP : va_P G cl [(a0, .inr (10, [.ref a1, .ref a2, .int v_m_2, .int v_m_3, .int v_m_4, .int v_m_5, .int h1, .int h78, .int 4, .int h79, .long w_m_10, .ref a3, .ref a4, .ref a5, .ref a6, .ref a7, .ref a8, .ref a9, .ref a10, .ref a11, .ref a12, .ref a13, .ref a14, .ref a15, .ref a16, .ref a17, .ref a18, .ref a19, .ref a20, .ref a21, .ref a22, .ref a23, .ref a24, .ref a25, .ref a26, .ref a27, .ref a28, .ref a29, .ref a30, .ref a31, .int 0, .int 1, .ref a32, .ref a33, .int v_m_44, .int v_m_45, .int v_m_46, .int v_m_47, .ref a34, .int v_m_49, .ref a35, .ref a36, .ref a37, .int v_m_53, .int v_m_54, .int v_m_55, .int v_m_56, .int v_m_57, .int v_m_58, .int v_m_59, .int v_m_60, .ref a38, .int v_m_62, .ref a39, .ref a40, .ref a41, .ref a42, .int v_m_67, .int v_m_68])), (a2, .inl (cB, 1300, .inl g_m_text))] H := hP
                            have hD : va_D A [(a0, .inr (10, [.ref a1, .ref a2, .int v_m_2, .int v_m_3, .int v_m_4, .int v_m_5, .int h1, .int h78, .int 4, .int h79, .long w_m_10, .ref a3, .ref a4, .ref a5, .ref a6, .ref a7, .ref a8, .ref a9, .ref a10, .ref a11, .ref a12, .ref a13, .ref a14, .ref a15, .ref a16, .ref a17, .ref a18, .ref a19, .ref a20, .ref a21, .ref a22, .ref a23, .ref a24, .ref a25, .ref a26, .ref a27, .ref a28, .ref a29, .ref a30, .ref a31, .int 0, .int 1, .ref a32, .ref a33, .int v_m_44, .int v_m_45, .int v_m_46, .int v_m_47, .ref a34, .int v_m_49, .ref a35, .ref a36, .ref a37, .int v_m_53, .int v_m_54, .int v_m_55, .int v_m_56, .int v_m_57, .int v_m_58, .int v_m_59, .int v_m_60, .ref a38, .int v_m_62, .ref a39, .ref a40, .ref a41, .ref a42, .int v_m_67, .int v_m_68])), (a2, .inl (cB, 1300, .inl g_m_text))] := hD
                            refine lv_goto (tgt := 376) hx hb dX10_goOn_358 (by decide) ?_
                            have l_l87 : (4 : Int32).toInt = 4 := rfl
                            rw [← hQm]
                            exact k_vret hC hr hlk hK hP hD hS (h1, h78, 4, h79, w_m_10) [0, 1] rfl (by decide) (show 0 ≤ h1.toInt ∧ h1.toInt ≤ 1300 ∧ 0 ≤ h78.toInt ∧ h78.toInt ≤ 1300 ∧ 0 ≤ (4 : Int32).toInt ∧ (4 : Int32).toInt ≤ 5 ∧ 0 ≤ h79.toInt ∧ h79.toInt ≤ 9999 ∧ (v_m_7.toInt ≤ h78.toInt) ∧ ((4 : Int32).toInt ≤ 5 * (h78.toInt - v_m_7.toInt)) ∧ (h78.toInt ≤ v_m_3.toInt) from by omega) (Nat.le_of_ble_eq_true rfl) (Nat.le_of_ble_eq_true rfl) dX10_goOn_376
                          · have l_86 : (1 : Int32).toInt = 1 := rfl
                            refine lv_if_eq (tgt := 354) hx hb dX10_goOn_347 (by decide) (fun c_ => absurd c_ (by decide +kernel)) (fun _ => ?_)
                            refine lv_iconst (v := 1) hx hb dX10_goOn_350 (by decide) ?_
                            refine lv_goto (tgt := 355) hx hb dX10_goOn_351 (by decide) ?_
                            refine k_put hC hK hP hD hS iX10 tyX10_ok nmX10 0 8 wf_X10_65 rfl (by decide) rfl rfl rfl rfl (Nat.le_of_ble_eq_true rfl) dX10_goOn_355 (fun H locs hP hD hS => ?_)
                            have hP : va_P G cl [(a0, .inr (10, [.ref a1, .ref a2, .int v_m_2, .int v_m_3, .int v_m_4, .int v_m_5, .int h1, .int h78, .int 1, .int h79, .long w_m_10, .ref a3, .ref a4, .ref a5, .ref a6, .ref a7, .ref a8, .ref a9, .ref a10, .ref a11, .ref a12, .ref a13, .ref a14, .ref a15, .ref a16, .ref a17, .ref a18, .ref a19, .ref a20, .ref a21, .ref a22, .ref a23, .ref a24, .ref a25, .ref a26, .ref a27, .ref a28, .ref a29, .ref a30, .ref a31, .int 0, .int 1, .ref a32, .ref a33, .int v_m_44, .int v_m_45, .int v_m_46, .int v_m_47, .ref a34, .int v_m_49, .ref a35, .ref a36, .ref a37, .int v_m_53, .int v_m_54, .int v_m_55, .int v_m_56, .int v_m_57, .int v_m_58, .int v_m_59, .int v_m_60, .ref a38, .int v_m_62, .ref a39, .ref a40, .ref a41, .ref a42, .int v_m_67, .int v_m_68])), (a2, .inl (cB, 1300, .inl g_m_text))] H := hP
                            have hD : va_D A [(a0, .inr (10, [.ref a1, .ref a2, .int v_m_2, .int v_m_3, .int v_m_4, .int v_m_5, .int h1, .int h78, .int 1, .int h79, .long w_m_10, .ref a3, .ref a4, .ref a5, .ref a6, .ref a7, .ref a8, .ref a9, .ref a10, .ref a11, .ref a12, .ref a13, .ref a14, .ref a15, .ref a16, .ref a17, .ref a18, .ref a19, .ref a20, .ref a21, .ref a22, .ref a23, .ref a24, .ref a25, .ref a26, .ref a27, .ref a28, .ref a29, .ref a30, .ref a31, .int 0, .int 1, .ref a32, .ref a33, .int v_m_44, .int v_m_45, .int v_m_46, .int v_m_47, .ref a34, .int v_m_49, .ref a35, .ref a36, .ref a37, .int v_m_53, .int v_m_54, .int v_m_55, .int v_m_56, .int v_m_57, .int v_m_58, .int v_m_59, .int v_m_60, .ref a38, .int v_m_62, .ref a39, .ref a40, .ref a41, .ref a42, .int v_m_67, .int v_m_68])), (a2, .inl (cB, 1300, .inl g_m_text))] := hD
                            refine lv_goto (tgt := 376) hx hb dX10_goOn_358 (by decide) ?_
                            have l_l88 : (1 : Int32).toInt = 1 := rfl
                            rw [← hQm]
                            exact k_vret hC hr hlk hK hP hD hS (h1, h78, 1, h79, w_m_10) [0, 1] rfl (by decide) (show 0 ≤ h1.toInt ∧ h1.toInt ≤ 1300 ∧ 0 ≤ h78.toInt ∧ h78.toInt ≤ 1300 ∧ 0 ≤ (1 : Int32).toInt ∧ (1 : Int32).toInt ≤ 5 ∧ 0 ≤ h79.toInt ∧ h79.toInt ≤ 9999 ∧ (v_m_7.toInt ≤ h78.toInt) ∧ ((1 : Int32).toInt ≤ 5 * (h78.toInt - v_m_7.toInt)) ∧ (h78.toInt ≤ v_m_3.toInt) from by omega) (Nat.le_of_ble_eq_true rfl) (Nat.le_of_ble_eq_true rfl) dX10_goOn_376
                      · have l_81 : (1 : Int32).toInt = 1 := rfl
                        refine lv_if_eq (tgt := 322) hx hb dX10_goOn_270 (by decide) (fun c_ => absurd c_ (by decide +kernel)) (fun _ => ?_)
                        refine lv_aload_n hx hb dX10_goOn_273 rfl (lv_at hl 0 rfl) ?_
                        refine k_get hC hK hP iX10 0 7 wf_X10_55 rfl (by decide) rfl rfl dX10_goOn_274 ?_
                        refine lv_aload_n hx hb dX10_goOn_277 rfl (lv_at hl 0 rfl) ?_
                        refine k_get hC hK hP iX10 0 6 wf_X10_58 rfl (by decide) rfl rfl dX10_goOn_278 ?_
                        refine lv_isub hx hb dX10_goOn_281 ?_
                        refine t_i (fun q => q.toInt = h78.toInt - h1.toInt) (sub_i (by show (-2147483648 : Int) ≤ h78.toInt - h1.toInt; omega) (by show h78.toInt - h1.toInt ≤ (2147483647 : Int); omega)) (fun z89 tz89 => ?_)
                        refine lv_iconst (v := 4) hx hb dX10_goOn_282 (by decide) ?_
                        refine lv_icmp_ge (tgt := 309) hx hb dX10_goOn_283 (by decide) (fun c90 => ?_) (fun c90 => ?_)
                        · have dc90 : 4 ≤ z89.toInt := (fa_le _ _).mp c90
                          have as91 : 0 ≤ h78.toInt ∧ h78.toInt ≤ 1299 := by omega
                          refine lv_aload_n hx hb dX10_goOn_309 rfl (lv_at hl 0 rfl) ?_
                          refine lv_dup hx hb dX10_goOn_310 rfl ?_
                          refine k_get hC hK hP iX10 0 7 wf_X10_55 rfl (by decide) rfl rfl dX10_goOn_311 ?_
                          refine lv_iconst (v := 1) hx hb dX10_goOn_314 (by decide) ?_
                          refine lv_iadd hx hb dX10_goOn_315 ?_
                          refine t_i (fun q => q.toInt = h78.toInt + 1) (add_i (by show (-2147483648 : Int) ≤ h78.toInt + 1; omega) (by show h78.toInt + 1 ≤ (2147483647 : Int); omega)) (fun z92 tz92 => ?_)
                          refine k_put hC hK hP hD hS iX10 tyX10_ok nmX10 0 7 wf_X10_55 rfl (by decide) rfl rfl rfl rfl (Nat.le_of_ble_eq_true rfl) dX10_goOn_316 (fun H locs hP hD hS => ?_)
                          have hP : va_P G cl [(a0, .inr (10, [.ref a1, .ref a2, .int v_m_2, .int v_m_3, .int v_m_4, .int v_m_5, .int h1, .int z92, .int v_m_8, .int h79, .long w_m_10, .ref a3, .ref a4, .ref a5, .ref a6, .ref a7, .ref a8, .ref a9, .ref a10, .ref a11, .ref a12, .ref a13, .ref a14, .ref a15, .ref a16, .ref a17, .ref a18, .ref a19, .ref a20, .ref a21, .ref a22, .ref a23, .ref a24, .ref a25, .ref a26, .ref a27, .ref a28, .ref a29, .ref a30, .ref a31, .int 0, .int 1, .ref a32, .ref a33, .int v_m_44, .int v_m_45, .int v_m_46, .int v_m_47, .ref a34, .int v_m_49, .ref a35, .ref a36, .ref a37, .int v_m_53, .int v_m_54, .int v_m_55, .int v_m_56, .int v_m_57, .int v_m_58, .int v_m_59, .int v_m_60, .ref a38, .int v_m_62, .ref a39, .ref a40, .ref a41, .ref a42, .int v_m_67, .int v_m_68])), (a2, .inl (cB, 1300, .inl g_m_text))] H := hP
                          have hD : va_D A [(a0, .inr (10, [.ref a1, .ref a2, .int v_m_2, .int v_m_3, .int v_m_4, .int v_m_5, .int h1, .int z92, .int v_m_8, .int h79, .long w_m_10, .ref a3, .ref a4, .ref a5, .ref a6, .ref a7, .ref a8, .ref a9, .ref a10, .ref a11, .ref a12, .ref a13, .ref a14, .ref a15, .ref a16, .ref a17, .ref a18, .ref a19, .ref a20, .ref a21, .ref a22, .ref a23, .ref a24, .ref a25, .ref a26, .ref a27, .ref a28, .ref a29, .ref a30, .ref a31, .int 0, .int 1, .ref a32, .ref a33, .int v_m_44, .int v_m_45, .int v_m_46, .int v_m_47, .ref a34, .int v_m_49, .ref a35, .ref a36, .ref a37, .int v_m_53, .int v_m_54, .int v_m_55, .int v_m_56, .int v_m_57, .int v_m_58, .int v_m_59, .int v_m_60, .ref a38, .int v_m_62, .ref a39, .ref a40, .ref a41, .ref a42, .int v_m_67, .int v_m_68])), (a2, .inl (cB, 1300, .inl g_m_text))] := hD
                          refine lv_goto (tgt := 259) hx hb dX10_goOn_319 (by decide) ?_
                          exact ih_259  z92 h79 H locs ls (by omega) (by omega) (hP.subm [0, 1] rfl) (hD.sub [0, 1] (by decide) rfl) hS (lv_sub hl [0, 1] rfl)
                        · have dc90 : z89.toInt < 4 := fa_nle c90
                          have as93 : 0 ≤ h79.toInt ∧ h79.toInt ≤ 999 := by omega
                          refine lv_aload_n hx hb dX10_goOn_286 rfl (lv_at hl 0 rfl) ?_
                          refine lv_bipush (v := 10) hx hb dX10_goOn_287 (by decide) ?_
                          refine lv_aload_n hx hb dX10_goOn_289 rfl (lv_at hl 0 rfl) ?_
                          refine k_get hC hK hP iX10 0 9 wf_X10_83 rfl (by decide) rfl rfl dX10_goOn_290 ?_
                          refine lv_imul hx hb dX10_goOn_293 ?_
                          refine t_i (fun q => q.toInt = 10 * h79.toInt) (mul_i (by show (-2147483648 : Int) ≤ 10 * h79.toInt; omega) (by show 10 * h79.toInt ≤ (2147483647 : Int); omega)) (fun z94 tz94 => ?_)
                          refine lv_aload_n hx hb dX10_goOn_294 rfl (lv_at hl 0 rfl) ?_
                          refine lv_aload_n hx hb dX10_goOn_295 rfl (lv_at hl 0 rfl) ?_
                          refine k_get hC hK hP iX10 0 7 wf_X10_55 rfl (by decide) rfl rfl dX10_goOn_296 ?_
                          refine k_ci (wr := []) (k_rV hC hN hZ hS hA hK hP hD (c2_X10_sign l G cI cJ cB cZ a0 a1 a2 a3 a4 a5 a6 a7 a8 a9 a10 a11 a12 a13 a14 a15 a16 a17 a18 a19 a20 a21 a22 a23 a24 a25 a26 a27 a28 a29 a30 a31 a32 a33 a34 a35 a36 a37 a38 a39 a40 a41 a42 h78 v_m_2 v_m_3 v_m_4 v_m_5 h1 h78 v_m_8 h79 w_m_10 v_m_44 v_m_45 v_m_46 v_m_47 v_m_49 v_m_53 v_m_54 v_m_55 v_m_56 v_m_57 v_m_58 v_m_59 v_m_60 v_m_62 v_m_67 v_m_68 g_m_text (by omega) hT_g_m_text) [0, 1] rfl (by decide) mi_X10_sign in_X10_sign se_X10_sign wm_X10_61 10 0 rfl rfl rfl hl.1 rfl rfl (Nat.le_of_ble_eq_true rfl) ⟨(Nat.le_of_ble_eq_true rfl), (Nat.le_of_ble_eq_true rfl)⟩ dX10_goOn_299 ⟨(Nat.le_of_ble_eq_true rfl), (Nat.le_of_ble_eq_true rfl)⟩) hP hD hS hA [0, 1] [] rfl rfl (by decide) (by decide) (fun r95 u95 H locs hp hP hD hS => ?_)
                          have hp : (0 ≤ r95.toInt ∧ r95.toInt ≤ 255 ∧ (r95.toInt = (sgn g_m_text v_m_3 h78).toInt) ∧ (r95.toInt = 0 ∨ h78.toInt < v_m_3.toInt)) := hp
                          have hP : va_P G cl [(a0, .inr (10, [.ref a1, .ref a2, .int v_m_2, .int v_m_3, .int v_m_4, .int v_m_5, .int h1, .int h78, .int v_m_8, .int h79, .long w_m_10, .ref a3, .ref a4, .ref a5, .ref a6, .ref a7, .ref a8, .ref a9, .ref a10, .ref a11, .ref a12, .ref a13, .ref a14, .ref a15, .ref a16, .ref a17, .ref a18, .ref a19, .ref a20, .ref a21, .ref a22, .ref a23, .ref a24, .ref a25, .ref a26, .ref a27, .ref a28, .ref a29, .ref a30, .ref a31, .int 0, .int 1, .ref a32, .ref a33, .int v_m_44, .int v_m_45, .int v_m_46, .int v_m_47, .ref a34, .int v_m_49, .ref a35, .ref a36, .ref a37, .int v_m_53, .int v_m_54, .int v_m_55, .int v_m_56, .int v_m_57, .int v_m_58, .int v_m_59, .int v_m_60, .ref a38, .int v_m_62, .ref a39, .ref a40, .ref a41, .ref a42, .int v_m_67, .int v_m_68])), (a2, .inl (cB, 1300, .inl g_m_text))] H := hP
                          have hD : va_D A [(a0, .inr (10, [.ref a1, .ref a2, .int v_m_2, .int v_m_3, .int v_m_4, .int v_m_5, .int h1, .int h78, .int v_m_8, .int h79, .long w_m_10, .ref a3, .ref a4, .ref a5, .ref a6, .ref a7, .ref a8, .ref a9, .ref a10, .ref a11, .ref a12, .ref a13, .ref a14, .ref a15, .ref a16, .ref a17, .ref a18, .ref a19, .ref a20, .ref a21, .ref a22, .ref a23, .ref a24, .ref a25, .ref a26, .ref a27, .ref a28, .ref a29, .ref a30, .ref a31, .int 0, .int 1, .ref a32, .ref a33, .int v_m_44, .int v_m_45, .int v_m_46, .int v_m_47, .ref a34, .int v_m_49, .ref a35, .ref a36, .ref a37, .int v_m_53, .int v_m_54, .int v_m_55, .int v_m_56, .int v_m_57, .int v_m_58, .int v_m_59, .int v_m_60, .ref a38, .int v_m_62, .ref a39, .ref a40, .ref a41, .ref a42, .int v_m_67, .int v_m_68])), (a2, .inl (cB, 1300, .inl g_m_text))] := hD
                          have hq95 := hp
                          have as96 : 48 ≤ r95.toInt ∧ r95.toInt ≤ 57 := by omega
                          refine lv_iadd hx hb dX10_goOn_302 ?_
                          refine t_i (fun q => q.toInt = z94.toInt + r95.toInt) (add_i (by show (-2147483648 : Int) ≤ z94.toInt + r95.toInt; omega) (by show z94.toInt + r95.toInt ≤ (2147483647 : Int); omega)) (fun z97 tz97 => ?_)
                          refine lv_bipush (v := 48) hx hb dX10_goOn_303 (by decide) ?_
                          refine lv_isub hx hb dX10_goOn_305 ?_
                          refine t_i (fun q => q.toInt = z97.toInt - 48) (sub_i (by show (-2147483648 : Int) ≤ z97.toInt - 48; omega) (by show z97.toInt - 48 ≤ (2147483647 : Int); omega)) (fun z98 tz98 => ?_)
                          refine k_put hC hK hP hD hS iX10 tyX10_ok nmX10 0 9 wf_X10_83 rfl (by decide) rfl rfl rfl rfl (Nat.le_of_ble_eq_true rfl) dX10_goOn_306 (fun H locs hP hD hS => ?_)
                          have hP : va_P G cl [(a0, .inr (10, [.ref a1, .ref a2, .int v_m_2, .int v_m_3, .int v_m_4, .int v_m_5, .int h1, .int h78, .int v_m_8, .int z98, .long w_m_10, .ref a3, .ref a4, .ref a5, .ref a6, .ref a7, .ref a8, .ref a9, .ref a10, .ref a11, .ref a12, .ref a13, .ref a14, .ref a15, .ref a16, .ref a17, .ref a18, .ref a19, .ref a20, .ref a21, .ref a22, .ref a23, .ref a24, .ref a25, .ref a26, .ref a27, .ref a28, .ref a29, .ref a30, .ref a31, .int 0, .int 1, .ref a32, .ref a33, .int v_m_44, .int v_m_45, .int v_m_46, .int v_m_47, .ref a34, .int v_m_49, .ref a35, .ref a36, .ref a37, .int v_m_53, .int v_m_54, .int v_m_55, .int v_m_56, .int v_m_57, .int v_m_58, .int v_m_59, .int v_m_60, .ref a38, .int v_m_62, .ref a39, .ref a40, .ref a41, .ref a42, .int v_m_67, .int v_m_68])), (a2, .inl (cB, 1300, .inl g_m_text))] H := hP
                          have hD : va_D A [(a0, .inr (10, [.ref a1, .ref a2, .int v_m_2, .int v_m_3, .int v_m_4, .int v_m_5, .int h1, .int h78, .int v_m_8, .int z98, .long w_m_10, .ref a3, .ref a4, .ref a5, .ref a6, .ref a7, .ref a8, .ref a9, .ref a10, .ref a11, .ref a12, .ref a13, .ref a14, .ref a15, .ref a16, .ref a17, .ref a18, .ref a19, .ref a20, .ref a21, .ref a22, .ref a23, .ref a24, .ref a25, .ref a26, .ref a27, .ref a28, .ref a29, .ref a30, .ref a31, .int 0, .int 1, .ref a32, .ref a33, .int v_m_44, .int v_m_45, .int v_m_46, .int v_m_47, .ref a34, .int v_m_49, .ref a35, .ref a36, .ref a37, .int v_m_53, .int v_m_54, .int v_m_55, .int v_m_56, .int v_m_57, .int v_m_58, .int v_m_59, .int v_m_60, .ref a38, .int v_m_62, .ref a39, .ref a40, .ref a41, .ref a42, .int v_m_67, .int v_m_68])), (a2, .inl (cB, 1300, .inl g_m_text))] := hD
                          have as99 : 0 ≤ h78.toInt ∧ h78.toInt ≤ 1299 := by omega
                          refine lv_aload_n hx hb dX10_goOn_309 rfl (lv_at hl 0 rfl) ?_
                          refine lv_dup hx hb dX10_goOn_310 rfl ?_
                          refine k_get hC hK hP iX10 0 7 wf_X10_55 rfl (by decide) rfl rfl dX10_goOn_311 ?_
                          refine lv_iconst (v := 1) hx hb dX10_goOn_314 (by decide) ?_
                          refine lv_iadd hx hb dX10_goOn_315 ?_
                          refine t_i (fun q => q.toInt = h78.toInt + 1) (add_i (by show (-2147483648 : Int) ≤ h78.toInt + 1; omega) (by show h78.toInt + 1 ≤ (2147483647 : Int); omega)) (fun z100 tz100 => ?_)
                          refine k_put hC hK hP hD hS iX10 tyX10_ok nmX10 0 7 wf_X10_55 rfl (by decide) rfl rfl rfl rfl (Nat.le_of_ble_eq_true rfl) dX10_goOn_316 (fun H locs hP hD hS => ?_)
                          have hP : va_P G cl [(a0, .inr (10, [.ref a1, .ref a2, .int v_m_2, .int v_m_3, .int v_m_4, .int v_m_5, .int h1, .int z100, .int v_m_8, .int z98, .long w_m_10, .ref a3, .ref a4, .ref a5, .ref a6, .ref a7, .ref a8, .ref a9, .ref a10, .ref a11, .ref a12, .ref a13, .ref a14, .ref a15, .ref a16, .ref a17, .ref a18, .ref a19, .ref a20, .ref a21, .ref a22, .ref a23, .ref a24, .ref a25, .ref a26, .ref a27, .ref a28, .ref a29, .ref a30, .ref a31, .int 0, .int 1, .ref a32, .ref a33, .int v_m_44, .int v_m_45, .int v_m_46, .int v_m_47, .ref a34, .int v_m_49, .ref a35, .ref a36, .ref a37, .int v_m_53, .int v_m_54, .int v_m_55, .int v_m_56, .int v_m_57, .int v_m_58, .int v_m_59, .int v_m_60, .ref a38, .int v_m_62, .ref a39, .ref a40, .ref a41, .ref a42, .int v_m_67, .int v_m_68])), (a2, .inl (cB, 1300, .inl g_m_text))] H := hP
                          have hD : va_D A [(a0, .inr (10, [.ref a1, .ref a2, .int v_m_2, .int v_m_3, .int v_m_4, .int v_m_5, .int h1, .int z100, .int v_m_8, .int z98, .long w_m_10, .ref a3, .ref a4, .ref a5, .ref a6, .ref a7, .ref a8, .ref a9, .ref a10, .ref a11, .ref a12, .ref a13, .ref a14, .ref a15, .ref a16, .ref a17, .ref a18, .ref a19, .ref a20, .ref a21, .ref a22, .ref a23, .ref a24, .ref a25, .ref a26, .ref a27, .ref a28, .ref a29, .ref a30, .ref a31, .int 0, .int 1, .ref a32, .ref a33, .int v_m_44, .int v_m_45, .int v_m_46, .int v_m_47, .ref a34, .int v_m_49, .ref a35, .ref a36, .ref a37, .int v_m_53, .int v_m_54, .int v_m_55, .int v_m_56, .int v_m_57, .int v_m_58, .int v_m_59, .int v_m_60, .ref a38, .int v_m_62, .ref a39, .ref a40, .ref a41, .ref a42, .int v_m_67, .int v_m_68])), (a2, .inl (cB, 1300, .inl g_m_text))] := hD
                          refine lv_goto (tgt := 259) hx hb dX10_goOn_319 (by decide) ?_
                          exact ih_259  z100 z98 H locs ls (by omega) (by omega) (hP.subm [0, 1] rfl) (hD.sub [0, 1] (by decide) rfl) hS (lv_sub hl [0, 1] rfl)
                  have l_l101 : (0 : Int32).toInt = 0 := rfl
                  exact L_259 1301 h1 0 H locs ls (by omega) (by omega) (hP.subm [0, 1] rfl) (hD.sub [0, 1] (by decide) rfl) hS (lv_sub hl [1, 0] rfl)
              · have l_73 : (1 : Int32).toInt = 1 := rfl
                refine lv_if_eq (tgt := 239) hx hb dX10_goOn_116 (by decide) (fun c_ => absurd c_ (by decide +kernel)) (fun _ => ?_)
                have L_119 : ∀ (n : Nat) (h102 : Int32) (H : Heap) (locs : List Loc) (ls : Array Slot), (1 ≤ h102.toInt ∧ h102.toInt ≤ 1300 ∧ (h1.toInt + 1 ≤ h102.toInt) ∧ (h102.toInt ≤ v_m_3.toInt)) → 1300 - h102.toInt < (n : Int) → va_P G cl [(a0, .inr (10, [.ref a1, .ref a2, .int v_m_2, .int v_m_3, .int v_m_4, .int v_m_5, .int h1, .int h102, .int v_m_8, .int v_m_9, .long w_m_10, .ref a3, .ref a4, .ref a5, .ref a6, .ref a7, .ref a8, .ref a9, .ref a10, .ref a11, .ref a12, .ref a13, .ref a14, .ref a15, .ref a16, .ref a17, .ref a18, .ref a19, .ref a20, .ref a21, .ref a22, .ref a23, .ref a24, .ref a25, .ref a26, .ref a27, .ref a28, .ref a29, .ref a30, .ref a31, .int 0, .int 1, .ref a32, .ref a33, .int v_m_44, .int v_m_45, .int v_m_46, .int v_m_47, .ref a34, .int v_m_49, .ref a35, .ref a36, .ref a37, .int v_m_53, .int v_m_54, .int v_m_55, .int v_m_56, .int v_m_57, .int v_m_58, .int v_m_59, .int v_m_60, .ref a38, .int v_m_62, .ref a39, .ref a40, .ref a41, .ref a42, .int v_m_67, .int v_m_68])), (a2, .inl (cB, 1300, .inl g_m_text))] H → va_D A [(a0, .inr (10, [.ref a1, .ref a2, .int v_m_2, .int v_m_3, .int v_m_4, .int v_m_5, .int h1, .int h102, .int v_m_8, .int v_m_9, .long w_m_10, .ref a3, .ref a4, .ref a5, .ref a6, .ref a7, .ref a8, .ref a9, .ref a10, .ref a11, .ref a12, .ref a13, .ref a14, .ref a15, .ref a16, .ref a17, .ref a18, .ref a19, .ref a20, .ref a21, .ref a22, .ref a23, .ref a24, .ref a25, .ref a26, .ref a27, .ref a28, .ref a29, .ref a30, .ref a31, .int 0, .int 1, .ref a32, .ref a33, .int v_m_44, .int v_m_45, .int v_m_46, .int v_m_47, .ref a34, .int v_m_49, .ref a35, .ref a36, .ref a37, .int v_m_53, .int v_m_54, .int v_m_55, .int v_m_56, .int v_m_57, .int v_m_58, .int v_m_59, .int v_m_60, .ref a38, .int v_m_62, .ref a39, .ref a40, .ref a41, .ref a42, .int v_m_67, .int v_m_68])), (a2, .inl (cB, 1300, .inl g_m_text))] → va_S A s.heap H locs → lv_has ls 3 [(0, .ref a0), (1, .int r70)] → W p l e ({ frames := 1, cells := 0, slots := 0, locals := 22 } : Room) s m args below meth c H locs 0 0 Qm (F0 m 119 ls []) := by
                  intro n
                  induction n with
                  | zero => intro h102 H locs ls hv hm; omega
                  | succ n ih_119 =>
                    intro h102 H locs ls hv hm hP hD hS hl
                    refine lv_aload_n hx hb dX10_goOn_119 rfl (lv_at hl 0 rfl) ?_
                    refine lv_aload_n hx hb dX10_goOn_120 rfl (lv_at hl 0 rfl) ?_
                    refine k_get hC hK hP iX10 0 7 wf_X10_55 rfl (by decide) rfl rfl dX10_goOn_121 ?_
                    refine k_ci (wr := []) (k_rV hC hN hZ hS hA hK hP hD (c2_X10_sign l G cI cJ cB cZ a0 a1 a2 a3 a4 a5 a6 a7 a8 a9 a10 a11 a12 a13 a14 a15 a16 a17 a18 a19 a20 a21 a22 a23 a24 a25 a26 a27 a28 a29 a30 a31 a32 a33 a34 a35 a36 a37 a38 a39 a40 a41 a42 h102 v_m_2 v_m_3 v_m_4 v_m_5 h1 h102 v_m_8 v_m_9 w_m_10 v_m_44 v_m_45 v_m_46 v_m_47 v_m_49 v_m_53 v_m_54 v_m_55 v_m_56 v_m_57 v_m_58 v_m_59 v_m_60 v_m_62 v_m_67 v_m_68 g_m_text (by omega) hT_g_m_text) [0, 1] rfl (by decide) mi_X10_sign in_X10_sign se_X10_sign wm_X10_61 10 0 rfl rfl rfl hl.1 rfl rfl (Nat.le_of_ble_eq_true rfl) ⟨(Nat.le_of_ble_eq_true rfl), (Nat.le_of_ble_eq_true rfl)⟩ dX10_goOn_124 ⟨(Nat.le_of_ble_eq_true rfl), (Nat.le_of_ble_eq_true rfl)⟩) hP hD hS hA [0, 1] [] rfl rfl (by decide) (by decide) (fun r103 u103 H locs hp hP hD hS => ?_)
                    have hp : (0 ≤ r103.toInt ∧ r103.toInt ≤ 255 ∧ (r103.toInt = (sgn g_m_text v_m_3 h102).toInt) ∧ (r103.toInt = 0 ∨ h102.toInt < v_m_3.toInt)) := hp
                    have hP : va_P G cl [(a0, .inr (10, [.ref a1, .ref a2, .int v_m_2, .int v_m_3, .int v_m_4, .int v_m_5, .int h1, .int h102, .int v_m_8, .int v_m_9, .long w_m_10, .ref a3, .ref a4, .ref a5, .ref a6, .ref a7, .ref a8, .ref a9, .ref a10, .ref a11, .ref a12, .ref a13, .ref a14, .ref a15, .ref a16, .ref a17, .ref a18, .ref a19, .ref a20, .ref a21, .ref a22, .ref a23, .ref a24, .ref a25, .ref a26, .ref a27, .ref a28, .ref a29, .ref a30, .ref a31, .int 0, .int 1, .ref a32, .ref a33, .int v_m_44, .int v_m_45, .int v_m_46, .int v_m_47, .ref a34, .int v_m_49, .ref a35, .ref a36, .ref a37, .int v_m_53, .int v_m_54, .int v_m_55, .int v_m_56, .int v_m_57, .int v_m_58, .int v_m_59, .int v_m_60, .ref a38, .int v_m_62, .ref a39, .ref a40, .ref a41, .ref a42, .int v_m_67, .int v_m_68])), (a2, .inl (cB, 1300, .inl g_m_text))] H := hP
                    have hD : va_D A [(a0, .inr (10, [.ref a1, .ref a2, .int v_m_2, .int v_m_3, .int v_m_4, .int v_m_5, .int h1, .int h102, .int v_m_8, .int v_m_9, .long w_m_10, .ref a3, .ref a4, .ref a5, .ref a6, .ref a7, .ref a8, .ref a9, .ref a10, .ref a11, .ref a12, .ref a13, .ref a14, .ref a15, .ref a16, .ref a17, .ref a18, .ref a19, .ref a20, .ref a21, .ref a22, .ref a23, .ref a24, .ref a25, .ref a26, .ref a27, .ref a28, .ref a29, .ref a30, .ref a31, .int 0, .int 1, .ref a32, .ref a33, .int v_m_44, .int v_m_45, .int v_m_46, .int v_m_47, .ref a34, .int v_m_49, .ref a35, .ref a36, .ref a37, .int v_m_53, .int v_m_54, .int v_m_55, .int v_m_56, .int v_m_57, .int v_m_58, .int v_m_59, .int v_m_60, .ref a38, .int v_m_62, .ref a39, .ref a40, .ref a41, .ref a42, .int v_m_67, .int v_m_68])), (a2, .inl (cB, 1300, .inl g_m_text))] := hD
                    have hq103 := hp
                    refine k_ci (wr := [(a0, .inr (10, [.ref a1, .ref a2, .int v_m_2, .int v_m_3, .int v_m_4, .int v_m_5, .int h1, .int h102, .int v_m_8, .int v_m_9, .long w_m_10, .ref a3, .ref a4, .ref a5, .ref a6, .ref a7, .ref a8, .ref a9, .ref a10, .ref a11, .ref a12, .ref a13, .ref a14, .ref a15, .ref a16, .ref a17, .ref a18, .ref a19, .ref a20, .ref a21, .ref a22, .ref a23, .ref a24, .ref a25, .ref a26, .ref a27, .ref a28, .ref a29, .ref a30, .ref a31, .int 0, .int 1, .ref a32, .ref a33, .int v_m_44, .int v_m_45, .int v_m_46, .int v_m_47, .ref a34, .int v_m_49, .ref a35, .ref a36, .ref a37, .int v_m_53, .int v_m_54, .int v_m_55, .int v_m_56, .int v_m_57, .int v_m_58, .int v_m_59, .int v_m_60, .ref a38, .int v_m_62, .ref a39, .ref a40, .ref a41, .ref a42, .int v_m_67, .int v_m_68])), (a2, .inl (cB, 1300, .inl g_m_text))]) (k_rS hC hN hZ hS hA hK hP hD (c3_X10_isLetter l G cI cJ cB cZ r103) [] rfl (by decide) mi_X10_isLetter st_X10_isLetter wm_X10_68 hl.1 rfl rfl (Nat.le_of_ble_eq_true rfl) ⟨(Nat.le_of_ble_eq_true rfl), (Nat.le_of_ble_eq_true rfl)⟩ dX10_goOn_127 ⟨(Nat.le_of_ble_eq_true rfl), (Nat.le_of_ble_eq_true rfl)⟩) hP hD hS hA [] [0, 1] rfl rfl (by decide) (by decide) (fun r104 u104 H locs hp hP hD hS => ?_)
                    have hP : va_P G cl [(a0, .inr (10, [.ref a1, .ref a2, .int v_m_2, .int v_m_3, .int v_m_4, .int v_m_5, .int h1, .int h102, .int v_m_8, .int v_m_9, .long w_m_10, .ref a3, .ref a4, .ref a5, .ref a6, .ref a7, .ref a8, .ref a9, .ref a10, .ref a11, .ref a12, .ref a13, .ref a14, .ref a15, .ref a16, .ref a17, .ref a18, .ref a19, .ref a20, .ref a21, .ref a22, .ref a23, .ref a24, .ref a25, .ref a26, .ref a27, .ref a28, .ref a29, .ref a30, .ref a31, .int 0, .int 1, .ref a32, .ref a33, .int v_m_44, .int v_m_45, .int v_m_46, .int v_m_47, .ref a34, .int v_m_49, .ref a35, .ref a36, .ref a37, .int v_m_53, .int v_m_54, .int v_m_55, .int v_m_56, .int v_m_57, .int v_m_58, .int v_m_59, .int v_m_60, .ref a38, .int v_m_62, .ref a39, .ref a40, .ref a41, .ref a42, .int v_m_67, .int v_m_68])), (a2, .inl (cB, 1300, .inl g_m_text))] H := hP
                    have hD : va_D A [(a0, .inr (10, [.ref a1, .ref a2, .int v_m_2, .int v_m_3, .int v_m_4, .int v_m_5, .int h1, .int h102, .int v_m_8, .int v_m_9, .long w_m_10, .ref a3, .ref a4, .ref a5, .ref a6, .ref a7, .ref a8, .ref a9, .ref a10, .ref a11, .ref a12, .ref a13, .ref a14, .ref a15, .ref a16, .ref a17, .ref a18, .ref a19, .ref a20, .ref a21, .ref a22, .ref a23, .ref a24, .ref a25, .ref a26, .ref a27, .ref a28, .ref a29, .ref a30, .ref a31, .int 0, .int 1, .ref a32, .ref a33, .int v_m_44, .int v_m_45, .int v_m_46, .int v_m_47, .ref a34, .int v_m_49, .ref a35, .ref a36, .ref a37, .int v_m_53, .int v_m_54, .int v_m_55, .int v_m_56, .int v_m_57, .int v_m_58, .int v_m_59, .int v_m_60, .ref a38, .int v_m_62, .ref a39, .ref a40, .ref a41, .ref a42, .int v_m_67, .int v_m_68])), (a2, .inl (cB, 1300, .inl g_m_text))] := hD
                    rcases (show (r104 = 0 ∧ (True)) ∨ (r104 = 1 ∧ (97 ≤ r103.toInt ∧ r103.toInt ≤ 122)) from hp) with ⟨rfl, hq104⟩ | ⟨rfl, hq104⟩
                    · have l_104 : (0 : Int32).toInt = 0 := rfl
                      refine lv_if_eq (tgt := 146) hx hb dX10_goOn_130 (by decide) (fun _ => ?_) (fun c_ => absurd (by decide +kernel) c_)
                      refine lv_aload_n hx hb dX10_goOn_146 rfl (lv_at hl 0 rfl) ?_
                      refine lv_lconst (v := 0) hx hb dX10_goOn_147 (by decide) ?_
                      refine k_put hC hK hP hD hS iX10 tyX10_ok nmX10 0 10 wf_X10_72 rfl (by decide) rfl rfl rfl rfl (Nat.le_of_ble_eq_true rfl) dX10_goOn_148 (fun H locs hP hD hS => ?_)
                      have hP : va_P G cl [(a0, .inr (10, [.ref a1, .ref a2, .int v_m_2, .int v_m_3, .int v_m_4, .int v_m_5, .int h1, .int h102, .int v_m_8, .int v_m_9, .long 0, .ref a3, .ref a4, .ref a5, .ref a6, .ref a7, .ref a8, .ref a9, .ref a10, .ref a11, .ref a12, .ref a13, .ref a14, .ref a15, .ref a16, .ref a17, .ref a18, .ref a19, .ref a20, .ref a21, .ref a22, .ref a23, .ref a24, .ref a25, .ref a26, .ref a27, .ref a28, .ref a29, .ref a30, .ref a31, .int 0, .int 1, .ref a32, .ref a33, .int v_m_44, .int v_m_45, .int v_m_46, .int v_m_47, .ref a34, .int v_m_49, .ref a35, .ref a36, .ref a37, .int v_m_53, .int v_m_54, .int v_m_55, .int v_m_56, .int v_m_57, .int v_m_58, .int v_m_59, .int v_m_60, .ref a38, .int v_m_62, .ref a39, .ref a40, .ref a41, .ref a42, .int v_m_67, .int v_m_68])), (a2, .inl (cB, 1300, .inl g_m_text))] H := hP
                      have hD : va_D A [(a0, .inr (10, [.ref a1, .ref a2, .int v_m_2, .int v_m_3, .int v_m_4, .int v_m_5, .int h1, .int h102, .int v_m_8, .int v_m_9, .long 0, .ref a3, .ref a4, .ref a5, .ref a6, .ref a7, .ref a8, .ref a9, .ref a10, .ref a11, .ref a12, .ref a13, .ref a14, .ref a15, .ref a16, .ref a17, .ref a18, .ref a19, .ref a20, .ref a21, .ref a22, .ref a23, .ref a24, .ref a25, .ref a26, .ref a27, .ref a28, .ref a29, .ref a30, .ref a31, .int 0, .int 1, .ref a32, .ref a33, .int v_m_44, .int v_m_45, .int v_m_46, .int v_m_47, .ref a34, .int v_m_49, .ref a35, .ref a36, .ref a37, .int v_m_53, .int v_m_54, .int v_m_55, .int v_m_56, .int v_m_57, .int v_m_58, .int v_m_59, .int v_m_60, .ref a38, .int v_m_62, .ref a39, .ref a40, .ref a41, .ref a42, .int v_m_67, .int v_m_68])), (a2, .inl (cB, 1300, .inl g_m_text))] := hD
                      refine lv_aload_n hx hb dX10_goOn_151 rfl (lv_at hl 0 rfl) ?_
                      refine k_get hC hK hP iX10 0 6 wf_X10_58 rfl (by decide) rfl rfl dX10_goOn_152 ?_
                      refine lv_istore_n (lv' := [(2, .int h1), (0, .ref a0), (1, .int r70)]) hx hb dX10_goOn_155 rfl hl (by decide) rfl (fun ls hl => ?_)
                      have L_156 : ∀ (n : Nat) (x105 : Int32) (y106 : Int64) (H : Heap) (locs : List Loc) (ls : Array Slot), (0 ≤ x105.toInt ∧ x105.toInt ≤ 1300) → 1300 - x105.toInt < (n : Int) → va_P G cl [(a0, .inr (10, [.ref a1, .ref a2, .int v_m_2, .int v_m_3, .int v_m_4, .int v_m_5, .int h1, .int h102, .int v_m_8, .int v_m_9, .long y106, .ref a3, .ref a4, .ref a5, .ref a6, .ref a7, .ref a8, .ref a9, .ref a10, .ref a11, .ref a12, .ref a13, .ref a14, .ref a15, .ref a16, .ref a17, .ref a18, .ref a19, .ref a20, .ref a21, .ref a22, .ref a23, .ref a24, .ref a25, .ref a26, .ref a27, .ref a28, .ref a29, .ref a30, .ref a31, .int 0, .int 1, .ref a32, .ref a33, .int v_m_44, .int v_m_45, .int v_m_46, .int v_m_47, .ref a34, .int v_m_49, .ref a35, .ref a36, .ref a37, .int v_m_53, .int v_m_54, .int v_m_55, .int v_m_56, .int v_m_57, .int v_m_58, .int v_m_59, .int v_m_60, .ref a38, .int v_m_62, .ref a39, .ref a40, .ref a41, .ref a42, .int v_m_67, .int v_m_68])), (a2, .inl (cB, 1300, .inl g_m_text))] H → va_D A [(a0, .inr (10, [.ref a1, .ref a2, .int v_m_2, .int v_m_3, .int v_m_4, .int v_m_5, .int h1, .int h102, .int v_m_8, .int v_m_9, .long y106, .ref a3, .ref a4, .ref a5, .ref a6, .ref a7, .ref a8, .ref a9, .ref a10, .ref a11, .ref a12, .ref a13, .ref a14, .ref a15, .ref a16, .ref a17, .ref a18, .ref a19, .ref a20, .ref a21, .ref a22, .ref a23, .ref a24, .ref a25, .ref a26, .ref a27, .ref a28, .ref a29, .ref a30, .ref a31, .int 0, .int 1, .ref a32, .ref a33, .int v_m_44, .int v_m_45, .int v_m_46, .int v_m_47, .ref a34, .int v_m_49, .ref a35, .ref a36, .ref a37, .int v_m_53, .int v_m_54, .int v_m_55, .int v_m_56, .int v_m_57, .int v_m_58, .int v_m_59, .int v_m_60, .ref a38, .int v_m_62, .ref a39, .ref a40, .ref a41, .ref a42, .int v_m_67, .int v_m_68])), (a2, .inl (cB, 1300, .inl g_m_text))] → va_S A s.heap H locs → lv_has ls 3 [(0, .ref a0), (1, .int r70), (2, .int x105)] → W p l e ({ frames := 1, cells := 0, slots := 0, locals := 22 } : Room) s m args below meth c H locs 0 0 Qm (F0 m 156 ls []) := by
                        intro n
                        induction n with
                        | zero => intro x105 y106 H locs ls hv hm; omega
                        | succ n ih_156 =>
                          intro x105 y106 H locs ls hv hm hP hD hS hl
                          refine lv_iload_n hx hb dX10_goOn_156 rfl (lv_at hl 2 rfl) ?_
                          refine lv_aload_n hx hb dX10_goOn_157 rfl (lv_at hl 0 rfl) ?_
                          refine k_get hC hK hP iX10 0 7 wf_X10_55 rfl (by decide) rfl rfl dX10_goOn_158 ?_
                          refine lv_icmp_ge (tgt := 199) hx hb dX10_goOn_161 (by decide) (fun c107 => ?_) (fun c107 => ?_)
                          · have dc107 : h102.toInt ≤ x105.toInt := (fa_le _ _).mp c107
                            refine lv_aload_n hx hb dX10_goOn_199 rfl (lv_at hl 0 rfl) ?_
                            refine lv_aload_n hx hb dX10_goOn_200 rfl (lv_at hl 0 rfl) ?_
                            refine k_get hC hK hP iX10 0 7 wf_X10_55 rfl (by decide) rfl rfl dX10_goOn_201 ?_
                            refine lv_aload_n hx hb dX10_goOn_204 rfl (lv_at hl 0 rfl) ?_
                            refine k_get hC hK hP iX10 0 6 wf_X10_58 rfl (by decide) rfl rfl dX10_goOn_205 ?_
                            refine lv_isub hx hb dX10_goOn_208 ?_
                            refine t_i (fun q => q.toInt = h102.toInt - h1.toInt) (sub_i (by show (-2147483648 : Int) ≤ h102.toInt - h1.toInt; omega) (by show h102.toInt - h1.toInt ≤ (2147483647 : Int); omega)) (fun z108 tz108 => ?_)
                            refine lv_bipush (v := 8) hx hb dX10_goOn_209 (by decide) ?_
                            refine lv_icmp_le (tgt := 218) hx hb dX10_goOn_211 (by decide) (fun c109 => ?_) (fun c109 => ?_)
                            · have dc109 : z108.toInt ≤ 8 := (fa_le _ _).mp c109
                              refine lv_aload_n hx hb dX10_goOn_218 rfl (lv_at hl 0 rfl) ?_
                              refine k_get hC hK hP iX10 0 10 wf_X10_72 rfl (by decide) rfl rfl dX10_goOn_219 ?_
                              refine k_ci (wr := [(a0, .inr (10, [.ref a1, .ref a2, .int v_m_2, .int v_m_3, .int v_m_4, .int v_m_5, .int h1, .int h102, .int v_m_8, .int v_m_9, .long y106, .ref a3, .ref a4, .ref a5, .ref a6, .ref a7, .ref a8, .ref a9, .ref a10, .ref a11, .ref a12, .ref a13, .ref a14, .ref a15, .ref a16, .ref a17, .ref a18, .ref a19, .ref a20, .ref a21, .ref a22, .ref a23, .ref a24, .ref a25, .ref a26, .ref a27, .ref a28, .ref a29, .ref a30, .ref a31, .int 0, .int 1, .ref a32, .ref a33, .int v_m_44, .int v_m_45, .int v_m_46, .int v_m_47, .ref a34, .int v_m_49, .ref a35, .ref a36, .ref a37, .int v_m_53, .int v_m_54, .int v_m_55, .int v_m_56, .int v_m_57, .int v_m_58, .int v_m_59, .int v_m_60, .ref a38, .int v_m_62, .ref a39, .ref a40, .ref a41, .ref a42, .int v_m_67, .int v_m_68])), (a2, .inl (cB, 1300, .inl g_m_text))]) (k_rS hC hN hZ hS hA hK hP hD (c5_X10_isKept l G cI cJ cB cZ y106) [] rfl (by decide) mi_X10_isKept st_X10_isKept wm_X10_76 hl.1 rfl rfl (Nat.le_of_ble_eq_true rfl) ⟨(Nat.le_of_ble_eq_true rfl), (Nat.le_of_ble_eq_true rfl)⟩ dX10_goOn_222 ⟨(Nat.le_of_ble_eq_true rfl), (Nat.le_of_ble_eq_true rfl)⟩) hP hD hS hA [] [0, 1] rfl rfl (by decide) (by decide) (fun r110 u110 H locs hp hP hD hS => ?_)
                              have hp : (0 ≤ r110.toInt ∧ r110.toInt ≤ 1) := hp
                              have hP : va_P G cl [(a0, .inr (10, [.ref a1, .ref a2, .int v_m_2, .int v_m_3, .int v_m_4, .int v_m_5, .int h1, .int h102, .int v_m_8, .int v_m_9, .long y106, .ref a3, .ref a4, .ref a5, .ref a6, .ref a7, .ref a8, .ref a9, .ref a10, .ref a11, .ref a12, .ref a13, .ref a14, .ref a15, .ref a16, .ref a17, .ref a18, .ref a19, .ref a20, .ref a21, .ref a22, .ref a23, .ref a24, .ref a25, .ref a26, .ref a27, .ref a28, .ref a29, .ref a30, .ref a31, .int 0, .int 1, .ref a32, .ref a33, .int v_m_44, .int v_m_45, .int v_m_46, .int v_m_47, .ref a34, .int v_m_49, .ref a35, .ref a36, .ref a37, .int v_m_53, .int v_m_54, .int v_m_55, .int v_m_56, .int v_m_57, .int v_m_58, .int v_m_59, .int v_m_60, .ref a38, .int v_m_62, .ref a39, .ref a40, .ref a41, .ref a42, .int v_m_67, .int v_m_68])), (a2, .inl (cB, 1300, .inl g_m_text))] H := hP
                              have hD : va_D A [(a0, .inr (10, [.ref a1, .ref a2, .int v_m_2, .int v_m_3, .int v_m_4, .int v_m_5, .int h1, .int h102, .int v_m_8, .int v_m_9, .long y106, .ref a3, .ref a4, .ref a5, .ref a6, .ref a7, .ref a8, .ref a9, .ref a10, .ref a11, .ref a12, .ref a13, .ref a14, .ref a15, .ref a16, .ref a17, .ref a18, .ref a19, .ref a20, .ref a21, .ref a22, .ref a23, .ref a24, .ref a25, .ref a26, .ref a27, .ref a28, .ref a29, .ref a30, .ref a31, .int 0, .int 1, .ref a32, .ref a33, .int v_m_44, .int v_m_45, .int v_m_46, .int v_m_47, .ref a34, .int v_m_49, .ref a35, .ref a36, .ref a37, .int v_m_53, .int v_m_54, .int v_m_55, .int v_m_56, .int v_m_57, .int v_m_58, .int v_m_59, .int v_m_60, .ref a38, .int v_m_62, .ref a39, .ref a40, .ref a41, .ref a42, .int v_m_67, .int v_m_68])), (a2, .inl (cB, 1300, .inl g_m_text))] := hD
                              have hq110 := hp
                              refine lv_if_eq (tgt := 232) hx hb dX10_goOn_225 (by decide) (fun c111 => ?_) (fun c111 => ?_)
                              · have dc111 : r110.toInt = 0 := (fa_eq _ _).mp c111
                                refine lv_iconst (v := 2) hx hb dX10_goOn_232 (by decide) ?_
                                refine k_put hC hK hP hD hS iX10 tyX10_ok nmX10 0 8 wf_X10_65 rfl (by decide) rfl rfl rfl rfl (Nat.le_of_ble_eq_true rfl) dX10_goOn_233 (fun H locs hP hD hS => ?_)
                                have hP : va_P G cl [(a0, .inr (10, [.ref a1, .ref a2, .int v_m_2, .int v_m_3, .int v_m_4, .int v_m_5, .int h1, .int h102, .int 2, .int v_m_9, .long y106, .ref a3, .ref a4, .ref a5, .ref a6, .ref a7, .ref a8, .ref a9, .ref a10, .ref a11, .ref a12, .ref a13, .ref a14, .ref a15, .ref a16, .ref a17, .ref a18, .ref a19, .ref a20, .ref a21, .ref a22, .ref a23, .ref a24, .ref a25, .ref a26, .ref a27, .ref a28, .ref a29, .ref a30, .ref a31, .int 0, .int 1, .ref a32, .ref a33, .int v_m_44, .int v_m_45, .int v_m_46, .int v_m_47, .ref a34, .int v_m_49, .ref a35, .ref a36, .ref a37, .int v_m_53, .int v_m_54, .int v_m_55, .int v_m_56, .int v_m_57, .int v_m_58, .int v_m_59, .int v_m_60, .ref a38, .int v_m_62, .ref a39, .ref a40, .ref a41, .ref a42, .int v_m_67, .int v_m_68])), (a2, .inl (cB, 1300, .inl g_m_text))] H := hP
                                have hD : va_D A [(a0, .inr (10, [.ref a1, .ref a2, .int v_m_2, .int v_m_3, .int v_m_4, .int v_m_5, .int h1, .int h102, .int 2, .int v_m_9, .long y106, .ref a3, .ref a4, .ref a5, .ref a6, .ref a7, .ref a8, .ref a9, .ref a10, .ref a11, .ref a12, .ref a13, .ref a14, .ref a15, .ref a16, .ref a17, .ref a18, .ref a19, .ref a20, .ref a21, .ref a22, .ref a23, .ref a24, .ref a25, .ref a26, .ref a27, .ref a28, .ref a29, .ref a30, .ref a31, .int 0, .int 1, .ref a32, .ref a33, .int v_m_44, .int v_m_45, .int v_m_46, .int v_m_47, .ref a34, .int v_m_49, .ref a35, .ref a36, .ref a37, .int v_m_53, .int v_m_54, .int v_m_55, .int v_m_56, .int v_m_57, .int v_m_58, .int v_m_59, .int v_m_60, .ref a38, .int v_m_62, .ref a39, .ref a40, .ref a41, .ref a42, .int v_m_67, .int v_m_68])), (a2, .inl (cB, 1300, .inl g_m_text))] := hD
                                refine lv_goto (tgt := 376) hx hb dX10_goOn_236 (by decide) ?_
                                have l_l112 : (2 : Int32).toInt = 2 := rfl
                                rw [← hQm]
                                exact k_vret hC hr hlk hK hP hD hS (h1, h102, 2, v_m_9, y106) [0, 1] rfl (by decide) (show 0 ≤ h1.toInt ∧ h1.toInt ≤ 1300 ∧ 0 ≤ h102.toInt ∧ h102.toInt ≤ 1300 ∧ 0 ≤ (2 : Int32).toInt ∧ (2 : Int32).toInt ≤ 5 ∧ 0 ≤ v_m_9.toInt ∧ v_m_9.toInt ≤ 9999 ∧ (v_m_7.toInt ≤ h102.toInt) ∧ ((2 : Int32).toInt ≤ 5 * (h102.toInt - v_m_7.toInt)) ∧ (h102.toInt ≤ v_m_3.toInt) from by omega) (Nat.le_of_ble_eq_true rfl) (Nat.le_of_ble_eq_true rfl) dX10_goOn_376
                              · have dc111 : r110.toInt ≠ 0 := fa_ne c111
                                refine lv_iconst (v := 3) hx hb dX10_goOn_228 (by decide) ?_
                                refine lv_goto (tgt := 233) hx hb dX10_goOn_229 (by decide) ?_
                                refine k_put hC hK hP hD hS iX10 tyX10_ok nmX10 0 8 wf_X10_65 rfl (by decide) rfl rfl rfl rfl (Nat.le_of_ble_eq_true rfl) dX10_goOn_233 (fun H locs hP hD hS => ?_)
                                have hP : va_P G cl [(a0, .inr (10, [.ref a1, .ref a2, .int v_m_2, .int v_m_3, .int v_m_4, .int v_m_5, .int h1, .int h102, .int 3, .int v_m_9, .long y106, .ref a3, .ref a4, .ref a5, .ref a6, .ref a7, .ref a8, .ref a9, .ref a10, .ref a11, .ref a12, .ref a13, .ref a14, .ref a15, .ref a16, .ref a17, .ref a18, .ref a19, .ref a20, .ref a21, .ref a22, .ref a23, .ref a24, .ref a25, .ref a26, .ref a27, .ref a28, .ref a29, .ref a30, .ref a31, .int 0, .int 1, .ref a32, .ref a33, .int v_m_44, .int v_m_45, .int v_m_46, .int v_m_47, .ref a34, .int v_m_49, .ref a35, .ref a36, .ref a37, .int v_m_53, .int v_m_54, .int v_m_55, .int v_m_56, .int v_m_57, .int v_m_58, .int v_m_59, .int v_m_60, .ref a38, .int v_m_62, .ref a39, .ref a40, .ref a41, .ref a42, .int v_m_67, .int v_m_68])), (a2, .inl (cB, 1300, .inl g_m_text))] H := hP
                                have hD : va_D A [(a0, .inr (10, [.ref a1, .ref a2, .int v_m_2, .int v_m_3, .int v_m_4, .int v_m_5, .int h1, .int h102, .int 3, .int v_m_9, .long y106, .ref a3, .ref a4, .ref a5, .ref a6, .ref a7, .ref a8, .ref a9, .ref a10, .ref a11, .ref a12, .ref a13, .ref a14, .ref a15, .ref a16, .ref a17, .ref a18, .ref a19, .ref a20, .ref a21, .ref a22, .ref a23, .ref a24, .ref a25, .ref a26, .ref a27, .ref a28, .ref a29, .ref a30, .ref a31, .int 0, .int 1, .ref a32, .ref a33, .int v_m_44, .int v_m_45, .int v_m_46, .int v_m_47, .ref a34, .int v_m_49, .ref a35, .ref a36, .ref a37, .int v_m_53, .int v_m_54, .int v_m_55, .int v_m_56, .int v_m_57, .int v_m_58, .int v_m_59, .int v_m_60, .ref a38, .int v_m_62, .ref a39, .ref a40, .ref a41, .ref a42, .int v_m_67, .int v_m_68])), (a2, .inl (cB, 1300, .inl g_m_text))] := hD
                                refine lv_goto (tgt := 376) hx hb dX10_goOn_236 (by decide) ?_
                                have l_l113 : (3 : Int32).toInt = 3 := rfl
                                rw [← hQm]
                                exact k_vret hC hr hlk hK hP hD hS (h1, h102, 3, v_m_9, y106) [0, 1] rfl (by decide) (show 0 ≤ h1.toInt ∧ h1.toInt ≤ 1300 ∧ 0 ≤ h102.toInt ∧ h102.toInt ≤ 1300 ∧ 0 ≤ (3 : Int32).toInt ∧ (3 : Int32).toInt ≤ 5 ∧ 0 ≤ v_m_9.toInt ∧ v_m_9.toInt ≤ 9999 ∧ (v_m_7.toInt ≤ h102.toInt) ∧ ((3 : Int32).toInt ≤ 5 * (h102.toInt - v_m_7.toInt)) ∧ (h102.toInt ≤ v_m_3.toInt) from by omega) (Nat.le_of_ble_eq_true rfl) (Nat.le_of_ble_eq_true rfl) dX10_goOn_376
                            · have dc109 : 8 < z108.toInt := fa_nle c109
                              refine lv_iconst (v := 1) hx hb dX10_goOn_214 (by decide) ?_
                              refine lv_goto (tgt := 233) hx hb dX10_goOn_215 (by decide) ?_
                              refine k_put hC hK hP hD hS iX10 tyX10_ok nmX10 0 8 wf_X10_65 rfl (by decide) rfl rfl rfl rfl (Nat.le_of_ble_eq_true rfl) dX10_goOn_233 (fun H locs hP hD hS => ?_)
                              have hP : va_P G cl [(a0, .inr (10, [.ref a1, .ref a2, .int v_m_2, .int v_m_3, .int v_m_4, .int v_m_5, .int h1, .int h102, .int 1, .int v_m_9, .long y106, .ref a3, .ref a4, .ref a5, .ref a6, .ref a7, .ref a8, .ref a9, .ref a10, .ref a11, .ref a12, .ref a13, .ref a14, .ref a15, .ref a16, .ref a17, .ref a18, .ref a19, .ref a20, .ref a21, .ref a22, .ref a23, .ref a24, .ref a25, .ref a26, .ref a27, .ref a28, .ref a29, .ref a30, .ref a31, .int 0, .int 1, .ref a32, .ref a33, .int v_m_44, .int v_m_45, .int v_m_46, .int v_m_47, .ref a34, .int v_m_49, .ref a35, .ref a36, .ref a37, .int v_m_53, .int v_m_54, .int v_m_55, .int v_m_56, .int v_m_57, .int v_m_58, .int v_m_59, .int v_m_60, .ref a38, .int v_m_62, .ref a39, .ref a40, .ref a41, .ref a42, .int v_m_67, .int v_m_68])), (a2, .inl (cB, 1300, .inl g_m_text))] H := hP
                              have hD : va_D A [(a0, .inr (10, [.ref a1, .ref a2, .int v_m_2, .int v_m_3, .int v_m_4, .int v_m_5, .int h1, .int h102, .int 1, .int v_m_9, .long y106, .ref a3, .ref a4, .ref a5, .ref a6, .ref a7, .ref a8, .ref a9, .ref a10, .ref a11, .ref a12, .ref a13, .ref a14, .ref a15, .ref a16, .ref a17, .ref a18, .ref a19, .ref a20, .ref a21, .ref a22, .ref a23, .ref a24, .ref a25, .ref a26, .ref a27, .ref a28, .ref a29, .ref a30, .ref a31, .int 0, .int 1, .ref a32, .ref a33, .int v_m_44, .int v_m_45, .int v_m_46, .int v_m_47, .ref a34, .int v_m_49, .ref a35, .ref a36, .ref a37, .int v_m_53, .int v_m_54, .int v_m_55, .int v_m_56, .int v_m_57, .int v_m_58, .int v_m_59, .int v_m_60, .ref a38, .int v_m_62, .ref a39, .ref a40, .ref a41, .ref a42, .int v_m_67, .int v_m_68])), (a2, .inl (cB, 1300, .inl g_m_text))] := hD
                              refine lv_goto (tgt := 376) hx hb dX10_goOn_236 (by decide) ?_
                              have l_l114 : (1 : Int32).toInt = 1 := rfl
                              rw [← hQm]
                              exact k_vret hC hr hlk hK hP hD hS (h1, h102, 1, v_m_9, y106) [0, 1] rfl (by decide) (show 0 ≤ h1.toInt ∧ h1.toInt ≤ 1300 ∧ 0 ≤ h102.toInt ∧ h102.toInt ≤ 1300 ∧ 0 ≤ (1 : Int32).toInt ∧ (1 : Int32).toInt ≤ 5 ∧ 0 ≤ v_m_9.toInt ∧ v_m_9.toInt ≤ 9999 ∧ (v_m_7.toInt ≤ h102.toInt) ∧ ((1 : Int32).toInt ≤ 5 * (h102.toInt - v_m_7.toInt)) ∧ (h102.toInt ≤ v_m_3.toInt) from by omega) (Nat.le_of_ble_eq_true rfl) (Nat.le_of_ble_eq_true rfl) dX10_goOn_376
                          · have dc107 : x105.toInt < h102.toInt := fa_nle c107
                            refine lv_iload_n hx hb dX10_goOn_164 rfl (lv_at hl 2 rfl) ?_
                            refine lv_aload_n hx hb dX10_goOn_165 rfl (lv_at hl 0 rfl) ?_
                            refine k_get hC hK hP iX10 0 6 wf_X10_58 rfl (by decide) rfl rfl dX10_goOn_166 ?_
                            refine lv_bipush (v := 8) hx hb dX10_goOn_169 (by decide) ?_
                            refine lv_iadd hx hb dX10_goOn_171 ?_
                            refine t_i (fun q => q.toInt = h1.toInt + 8) (add_i (by show (-2147483648 : Int) ≤ h1.toInt + 8; omega) (by show h1.toInt + 8 ≤ (2147483647 : Int); omega)) (fun z115 tz115 => ?_)
                            refine lv_icmp_ge (tgt := 199) hx hb dX10_goOn_172 (by decide) (fun c116 => ?_) (fun c116 => ?_)
                            · have dc116 : z115.toInt ≤ x105.toInt := (fa_le _ _).mp c116
                              refine lv_aload_n hx hb dX10_goOn_199 rfl (lv_at hl 0 rfl) ?_
                              refine lv_aload_n hx hb dX10_goOn_200 rfl (lv_at hl 0 rfl) ?_
                              refine k_get hC hK hP iX10 0 7 wf_X10_55 rfl (by decide) rfl rfl dX10_goOn_201 ?_
                              refine lv_aload_n hx hb dX10_goOn_204 rfl (lv_at hl 0 rfl) ?_
                              refine k_get hC hK hP iX10 0 6 wf_X10_58 rfl (by decide) rfl rfl dX10_goOn_205 ?_
                              refine lv_isub hx hb dX10_goOn_208 ?_
                              refine t_i (fun q => q.toInt = h102.toInt - h1.toInt) (sub_i (by show (-2147483648 : Int) ≤ h102.toInt - h1.toInt; omega) (by show h102.toInt - h1.toInt ≤ (2147483647 : Int); omega)) (fun z117 tz117 => ?_)
                              refine lv_bipush (v := 8) hx hb dX10_goOn_209 (by decide) ?_
                              refine lv_icmp_le (tgt := 218) hx hb dX10_goOn_211 (by decide) (fun c118 => ?_) (fun c118 => ?_)
                              · have dc118 : z117.toInt ≤ 8 := (fa_le _ _).mp c118
                                refine lv_aload_n hx hb dX10_goOn_218 rfl (lv_at hl 0 rfl) ?_
                                refine k_get hC hK hP iX10 0 10 wf_X10_72 rfl (by decide) rfl rfl dX10_goOn_219 ?_
                                refine k_ci (wr := [(a0, .inr (10, [.ref a1, .ref a2, .int v_m_2, .int v_m_3, .int v_m_4, .int v_m_5, .int h1, .int h102, .int v_m_8, .int v_m_9, .long y106, .ref a3, .ref a4, .ref a5, .ref a6, .ref a7, .ref a8, .ref a9, .ref a10, .ref a11, .ref a12, .ref a13, .ref a14, .ref a15, .ref a16, .ref a17, .ref a18, .ref a19, .ref a20, .ref a21, .ref a22, .ref a23, .ref a24, .ref a25, .ref a26, .ref a27, .ref a28, .ref a29, .ref a30, .ref a31, .int 0, .int 1, .ref a32, .ref a33, .int v_m_44, .int v_m_45, .int v_m_46, .int v_m_47, .ref a34, .int v_m_49, .ref a35, .ref a36, .ref a37, .int v_m_53, .int v_m_54, .int v_m_55, .int v_m_56, .int v_m_57, .int v_m_58, .int v_m_59, .int v_m_60, .ref a38, .int v_m_62, .ref a39, .ref a40, .ref a41, .ref a42, .int v_m_67, .int v_m_68])), (a2, .inl (cB, 1300, .inl g_m_text))]) (k_rS hC hN hZ hS hA hK hP hD (c5_X10_isKept l G cI cJ cB cZ y106) [] rfl (by decide) mi_X10_isKept st_X10_isKept wm_X10_76 hl.1 rfl rfl (Nat.le_of_ble_eq_true rfl) ⟨(Nat.le_of_ble_eq_true rfl), (Nat.le_of_ble_eq_true rfl)⟩ dX10_goOn_222 ⟨(Nat.le_of_ble_eq_true rfl), (Nat.le_of_ble_eq_true rfl)⟩) hP hD hS hA [] [0, 1] rfl rfl (by decide) (by decide) (fun r119 u119 H locs hp hP hD hS => ?_)
                                have hp : (0 ≤ r119.toInt ∧ r119.toInt ≤ 1) := hp
                                have hP : va_P G cl [(a0, .inr (10, [.ref a1, .ref a2, .int v_m_2, .int v_m_3, .int v_m_4, .int v_m_5, .int h1, .int h102, .int v_m_8, .int v_m_9, .long y106, .ref a3, .ref a4, .ref a5, .ref a6, .ref a7, .ref a8, .ref a9, .ref a10, .ref a11, .ref a12, .ref a13, .ref a14, .ref a15, .ref a16, .ref a17, .ref a18, .ref a19, .ref a20, .ref a21, .ref a22, .ref a23, .ref a24, .ref a25, .ref a26, .ref a27, .ref a28, .ref a29, .ref a30, .ref a31, .int 0, .int 1, .ref a32, .ref a33, .int v_m_44, .int v_m_45, .int v_m_46, .int v_m_47, .ref a34, .int v_m_49, .ref a35, .ref a36, .ref a37, .int v_m_53, .int v_m_54, .int v_m_55, .int v_m_56, .int v_m_57, .int v_m_58, .int v_m_59, .int v_m_60, .ref a38, .int v_m_62, .ref a39, .ref a40, .ref a41, .ref a42, .int v_m_67, .int v_m_68])), (a2, .inl (cB, 1300, .inl g_m_text))] H := hP
                                have hD : va_D A [(a0, .inr (10, [.ref a1, .ref a2, .int v_m_2, .int v_m_3, .int v_m_4, .int v_m_5, .int h1, .int h102, .int v_m_8, .int v_m_9, .long y106, .ref a3, .ref a4, .ref a5, .ref a6, .ref a7, .ref a8, .ref a9, .ref a10, .ref a11, .ref a12, .ref a13, .ref a14, .ref a15, .ref a16, .ref a17, .ref a18, .ref a19, .ref a20, .ref a21, .ref a22, .ref a23, .ref a24, .ref a25, .ref a26, .ref a27, .ref a28, .ref a29, .ref a30, .ref a31, .int 0, .int 1, .ref a32, .ref a33, .int v_m_44, .int v_m_45, .int v_m_46, .int v_m_47, .ref a34, .int v_m_49, .ref a35, .ref a36, .ref a37, .int v_m_53, .int v_m_54, .int v_m_55, .int v_m_56, .int v_m_57, .int v_m_58, .int v_m_59, .int v_m_60, .ref a38, .int v_m_62, .ref a39, .ref a40, .ref a41, .ref a42, .int v_m_67, .int v_m_68])), (a2, .inl (cB, 1300, .inl g_m_text))] := hD
                                have hq119 := hp
                                refine lv_if_eq (tgt := 232) hx hb dX10_goOn_225 (by decide) (fun c120 => ?_) (fun c120 => ?_)
                                · have dc120 : r119.toInt = 0 := (fa_eq _ _).mp c120
                                  refine lv_iconst (v := 2) hx hb dX10_goOn_232 (by decide) ?_
                                  refine k_put hC hK hP hD hS iX10 tyX10_ok nmX10 0 8 wf_X10_65 rfl (by decide) rfl rfl rfl rfl (Nat.le_of_ble_eq_true rfl) dX10_goOn_233 (fun H locs hP hD hS => ?_)
                                  have hP : va_P G cl [(a0, .inr (10, [.ref a1, .ref a2, .int v_m_2, .int v_m_3, .int v_m_4, .int v_m_5, .int h1, .int h102, .int 2, .int v_m_9, .long y106, .ref a3, .ref a4, .ref a5, .ref a6, .ref a7, .ref a8, .ref a9, .ref a10, .ref a11, .ref a12, .ref a13, .ref a14, .ref a15, .ref a16, .ref a17, .ref a18, .ref a19, .ref a20, .ref a21, .ref a22, .ref a23, .ref a24, .ref a25, .ref a26, .ref a27, .ref a28, .ref a29, .ref a30, .ref a31, .int 0, .int 1, .ref a32, .ref a33, .int v_m_44, .int v_m_45, .int v_m_46, .int v_m_47, .ref a34, .int v_m_49, .ref a35, .ref a36, .ref a37, .int v_m_53, .int v_m_54, .int v_m_55, .int v_m_56, .int v_m_57, .int v_m_58, .int v_m_59, .int v_m_60, .ref a38, .int v_m_62, .ref a39, .ref a40, .ref a41, .ref a42, .int v_m_67, .int v_m_68])), (a2, .inl (cB, 1300, .inl g_m_text))] H := hP
                                  have hD : va_D A [(a0, .inr (10, [.ref a1, .ref a2, .int v_m_2, .int v_m_3, .int v_m_4, .int v_m_5, .int h1, .int h102, .int 2, .int v_m_9, .long y106, .ref a3, .ref a4, .ref a5, .ref a6, .ref a7, .ref a8, .ref a9, .ref a10, .ref a11, .ref a12, .ref a13, .ref a14, .ref a15, .ref a16, .ref a17, .ref a18, .ref a19, .ref a20, .ref a21, .ref a22, .ref a23, .ref a24, .ref a25, .ref a26, .ref a27, .ref a28, .ref a29, .ref a30, .ref a31, .int 0, .int 1, .ref a32, .ref a33, .int v_m_44, .int v_m_45, .int v_m_46, .int v_m_47, .ref a34, .int v_m_49, .ref a35, .ref a36, .ref a37, .int v_m_53, .int v_m_54, .int v_m_55, .int v_m_56, .int v_m_57, .int v_m_58, .int v_m_59, .int v_m_60, .ref a38, .int v_m_62, .ref a39, .ref a40, .ref a41, .ref a42, .int v_m_67, .int v_m_68])), (a2, .inl (cB, 1300, .inl g_m_text))] := hD
                                  refine lv_goto (tgt := 376) hx hb dX10_goOn_236 (by decide) ?_
                                  have l_l121 : (2 : Int32).toInt = 2 := rfl
                                  rw [← hQm]
                                  exact k_vret hC hr hlk hK hP hD hS (h1, h102, 2, v_m_9, y106) [0, 1] rfl (by decide) (show 0 ≤ h1.toInt ∧ h1.toInt ≤ 1300 ∧ 0 ≤ h102.toInt ∧ h102.toInt ≤ 1300 ∧ 0 ≤ (2 : Int32).toInt ∧ (2 : Int32).toInt ≤ 5 ∧ 0 ≤ v_m_9.toInt ∧ v_m_9.toInt ≤ 9999 ∧ (v_m_7.toInt ≤ h102.toInt) ∧ ((2 : Int32).toInt ≤ 5 * (h102.toInt - v_m_7.toInt)) ∧ (h102.toInt ≤ v_m_3.toInt) from by omega) (Nat.le_of_ble_eq_true rfl) (Nat.le_of_ble_eq_true rfl) dX10_goOn_376
                                · have dc120 : r119.toInt ≠ 0 := fa_ne c120
                                  refine lv_iconst (v := 3) hx hb dX10_goOn_228 (by decide) ?_
                                  refine lv_goto (tgt := 233) hx hb dX10_goOn_229 (by decide) ?_
                                  refine k_put hC hK hP hD hS iX10 tyX10_ok nmX10 0 8 wf_X10_65 rfl (by decide) rfl rfl rfl rfl (Nat.le_of_ble_eq_true rfl) dX10_goOn_233 (fun H locs hP hD hS => ?_)
                                  have hP : va_P G cl [(a0, .inr (10, [.ref a1, .ref a2, .int v_m_2, .int v_m_3, .int v_m_4, .int v_m_5, .int h1, .int h102, .int 3, .int v_m_9, .long y106, .ref a3, .ref a4, .ref a5, .ref a6, .ref a7, .ref a8, .ref a9, .ref a10, .ref a11, .ref a12, .ref a13, .ref a14, .ref a15, .ref a16, .ref a17, .ref a18, .ref a19, .ref a20, .ref a21, .ref a22, .ref a23, .ref a24, .ref a25, .ref a26, .ref a27, .ref a28, .ref a29, .ref a30, .ref a31, .int 0, .int 1, .ref a32, .ref a33, .int v_m_44, .int v_m_45, .int v_m_46, .int v_m_47, .ref a34, .int v_m_49, .ref a35, .ref a36, .ref a37, .int v_m_53, .int v_m_54, .int v_m_55, .int v_m_56, .int v_m_57, .int v_m_58, .int v_m_59, .int v_m_60, .ref a38, .int v_m_62, .ref a39, .ref a40, .ref a41, .ref a42, .int v_m_67, .int v_m_68])), (a2, .inl (cB, 1300, .inl g_m_text))] H := hP
                                  have hD : va_D A [(a0, .inr (10, [.ref a1, .ref a2, .int v_m_2, .int v_m_3, .int v_m_4, .int v_m_5, .int h1, .int h102, .int 3, .int v_m_9, .long y106, .ref a3, .ref a4, .ref a5, .ref a6, .ref a7, .ref a8, .ref a9, .ref a10, .ref a11, .ref a12, .ref a13, .ref a14, .ref a15, .ref a16, .ref a17, .ref a18, .ref a19, .ref a20, .ref a21, .ref a22, .ref a23, .ref a24, .ref a25, .ref a26, .ref a27, .ref a28, .ref a29, .ref a30, .ref a31, .int 0, .int 1, .ref a32, .ref a33, .int v_m_44, .int v_m_45, .int v_m_46, .int v_m_47, .ref a34, .int v_m_49, .ref a35, .ref a36, .ref a37, .int v_m_53, .int v_m_54, .int v_m_55, .int v_m_56, .int v_m_57, .int v_m_58, .int v_m_59, .int v_m_60, .ref a38, .int v_m_62, .ref a39, .ref a40, .ref a41, .ref a42, .int v_m_67, .int v_m_68])), (a2, .inl (cB, 1300, .inl g_m_text))] := hD
                                  refine lv_goto (tgt := 376) hx hb dX10_goOn_236 (by decide) ?_
                                  have l_l122 : (3 : Int32).toInt = 3 := rfl
                                  rw [← hQm]
                                  exact k_vret hC hr hlk hK hP hD hS (h1, h102, 3, v_m_9, y106) [0, 1] rfl (by decide) (show 0 ≤ h1.toInt ∧ h1.toInt ≤ 1300 ∧ 0 ≤ h102.toInt ∧ h102.toInt ≤ 1300 ∧ 0 ≤ (3 : Int32).toInt ∧ (3 : Int32).toInt ≤ 5 ∧ 0 ≤ v_m_9.toInt ∧ v_m_9.toInt ≤ 9999 ∧ (v_m_7.toInt ≤ h102.toInt) ∧ ((3 : Int32).toInt ≤ 5 * (h102.toInt - v_m_7.toInt)) ∧ (h102.toInt ≤ v_m_3.toInt) from by omega) (Nat.le_of_ble_eq_true rfl) (Nat.le_of_ble_eq_true rfl) dX10_goOn_376
                              · have dc118 : 8 < z117.toInt := fa_nle c118
                                refine lv_iconst (v := 1) hx hb dX10_goOn_214 (by decide) ?_
                                refine lv_goto (tgt := 233) hx hb dX10_goOn_215 (by decide) ?_
                                refine k_put hC hK hP hD hS iX10 tyX10_ok nmX10 0 8 wf_X10_65 rfl (by decide) rfl rfl rfl rfl (Nat.le_of_ble_eq_true rfl) dX10_goOn_233 (fun H locs hP hD hS => ?_)
                                have hP : va_P G cl [(a0, .inr (10, [.ref a1, .ref a2, .int v_m_2, .int v_m_3, .int v_m_4, .int v_m_5, .int h1, .int h102, .int 1, .int v_m_9, .long y106, .ref a3, .ref a4, .ref a5, .ref a6, .ref a7, .ref a8, .ref a9, .ref a10, .ref a11, .ref a12, .ref a13, .ref a14, .ref a15, .ref a16, .ref a17, .ref a18, .ref a19, .ref a20, .ref a21, .ref a22, .ref a23, .ref a24, .ref a25, .ref a26, .ref a27, .ref a28, .ref a29, .ref a30, .ref a31, .int 0, .int 1, .ref a32, .ref a33, .int v_m_44, .int v_m_45, .int v_m_46, .int v_m_47, .ref a34, .int v_m_49, .ref a35, .ref a36, .ref a37, .int v_m_53, .int v_m_54, .int v_m_55, .int v_m_56, .int v_m_57, .int v_m_58, .int v_m_59, .int v_m_60, .ref a38, .int v_m_62, .ref a39, .ref a40, .ref a41, .ref a42, .int v_m_67, .int v_m_68])), (a2, .inl (cB, 1300, .inl g_m_text))] H := hP
                                have hD : va_D A [(a0, .inr (10, [.ref a1, .ref a2, .int v_m_2, .int v_m_3, .int v_m_4, .int v_m_5, .int h1, .int h102, .int 1, .int v_m_9, .long y106, .ref a3, .ref a4, .ref a5, .ref a6, .ref a7, .ref a8, .ref a9, .ref a10, .ref a11, .ref a12, .ref a13, .ref a14, .ref a15, .ref a16, .ref a17, .ref a18, .ref a19, .ref a20, .ref a21, .ref a22, .ref a23, .ref a24, .ref a25, .ref a26, .ref a27, .ref a28, .ref a29, .ref a30, .ref a31, .int 0, .int 1, .ref a32, .ref a33, .int v_m_44, .int v_m_45, .int v_m_46, .int v_m_47, .ref a34, .int v_m_49, .ref a35, .ref a36, .ref a37, .int v_m_53, .int v_m_54, .int v_m_55, .int v_m_56, .int v_m_57, .int v_m_58, .int v_m_59, .int v_m_60, .ref a38, .int v_m_62, .ref a39, .ref a40, .ref a41, .ref a42, .int v_m_67, .int v_m_68])), (a2, .inl (cB, 1300, .inl g_m_text))] := hD
                                refine lv_goto (tgt := 376) hx hb dX10_goOn_236 (by decide) ?_
                                have l_l123 : (1 : Int32).toInt = 1 := rfl
                                rw [← hQm]
                                exact k_vret hC hr hlk hK hP hD hS (h1, h102, 1, v_m_9, y106) [0, 1] rfl (by decide) (show 0 ≤ h1.toInt ∧ h1.toInt ≤ 1300 ∧ 0 ≤ h102.toInt ∧ h102.toInt ≤ 1300 ∧ 0 ≤ (1 : Int32).toInt ∧ (1 : Int32).toInt ≤ 5 ∧ 0 ≤ v_m_9.toInt ∧ v_m_9.toInt ≤ 9999 ∧ (v_m_7.toInt ≤ h102.toInt) ∧ ((1 : Int32).toInt ≤ 5 * (h102.toInt - v_m_7.toInt)) ∧ (h102.toInt ≤ v_m_3.toInt) from by omega) (Nat.le_of_ble_eq_true rfl) (Nat.le_of_ble_eq_true rfl) dX10_goOn_376
                            · have dc116 : x105.toInt < z115.toInt := fa_nle c116
                              refine lv_aload_n hx hb dX10_goOn_175 rfl (lv_at hl 0 rfl) ?_
                              refine lv_aload_n hx hb dX10_goOn_176 rfl (lv_at hl 0 rfl) ?_
                              refine k_get hC hK hP iX10 0 10 wf_X10_72 rfl (by decide) rfl rfl dX10_goOn_177 ?_
                              refine lv_bipush (v := 8) hx hb dX10_goOn_180 (by decide) ?_
                              refine lv_lshl hx hb dX10_goOn_182 rfl ?_
                              refine t_l (fun y124 => ?_)
                              refine lv_aload_n hx hb dX10_goOn_183 rfl (lv_at hl 0 rfl) ?_
                              refine lv_iload_n hx hb dX10_goOn_184 rfl (lv_at hl 2 rfl) ?_
                              refine k_ci (wr := []) (k_rV hC hN hZ hS hA hK hP hD (c2_X10_sign l G cI cJ cB cZ a0 a1 a2 a3 a4 a5 a6 a7 a8 a9 a10 a11 a12 a13 a14 a15 a16 a17 a18 a19 a20 a21 a22 a23 a24 a25 a26 a27 a28 a29 a30 a31 a32 a33 a34 a35 a36 a37 a38 a39 a40 a41 a42 x105 v_m_2 v_m_3 v_m_4 v_m_5 h1 h102 v_m_8 v_m_9 y106 v_m_44 v_m_45 v_m_46 v_m_47 v_m_49 v_m_53 v_m_54 v_m_55 v_m_56 v_m_57 v_m_58 v_m_59 v_m_60 v_m_62 v_m_67 v_m_68 g_m_text (by omega) hT_g_m_text) [0, 1] rfl (by decide) mi_X10_sign in_X10_sign se_X10_sign wm_X10_61 10 0 rfl rfl rfl hl.1 rfl rfl (Nat.le_of_ble_eq_true rfl) ⟨(Nat.le_of_ble_eq_true rfl), (Nat.le_of_ble_eq_true rfl)⟩ dX10_goOn_185 ⟨(Nat.le_of_ble_eq_true rfl), (Nat.le_of_ble_eq_true rfl)⟩) hP hD hS hA [0, 1] [] rfl rfl (by decide) (by decide) (fun r125 u125 H locs hp hP hD hS => ?_)
                              have hp : (0 ≤ r125.toInt ∧ r125.toInt ≤ 255 ∧ (r125.toInt = (sgn g_m_text v_m_3 x105).toInt) ∧ (r125.toInt = 0 ∨ x105.toInt < v_m_3.toInt)) := hp
                              have hP : va_P G cl [(a0, .inr (10, [.ref a1, .ref a2, .int v_m_2, .int v_m_3, .int v_m_4, .int v_m_5, .int h1, .int h102, .int v_m_8, .int v_m_9, .long y106, .ref a3, .ref a4, .ref a5, .ref a6, .ref a7, .ref a8, .ref a9, .ref a10, .ref a11, .ref a12, .ref a13, .ref a14, .ref a15, .ref a16, .ref a17, .ref a18, .ref a19, .ref a20, .ref a21, .ref a22, .ref a23, .ref a24, .ref a25, .ref a26, .ref a27, .ref a28, .ref a29, .ref a30, .ref a31, .int 0, .int 1, .ref a32, .ref a33, .int v_m_44, .int v_m_45, .int v_m_46, .int v_m_47, .ref a34, .int v_m_49, .ref a35, .ref a36, .ref a37, .int v_m_53, .int v_m_54, .int v_m_55, .int v_m_56, .int v_m_57, .int v_m_58, .int v_m_59, .int v_m_60, .ref a38, .int v_m_62, .ref a39, .ref a40, .ref a41, .ref a42, .int v_m_67, .int v_m_68])), (a2, .inl (cB, 1300, .inl g_m_text))] H := hP
                              have hD : va_D A [(a0, .inr (10, [.ref a1, .ref a2, .int v_m_2, .int v_m_3, .int v_m_4, .int v_m_5, .int h1, .int h102, .int v_m_8, .int v_m_9, .long y106, .ref a3, .ref a4, .ref a5, .ref a6, .ref a7, .ref a8, .ref a9, .ref a10, .ref a11, .ref a12, .ref a13, .ref a14, .ref a15, .ref a16, .ref a17, .ref a18, .ref a19, .ref a20, .ref a21, .ref a22, .ref a23, .ref a24, .ref a25, .ref a26, .ref a27, .ref a28, .ref a29, .ref a30, .ref a31, .int 0, .int 1, .ref a32, .ref a33, .int v_m_44, .int v_m_45, .int v_m_46, .int v_m_47, .ref a34, .int v_m_49, .ref a35, .ref a36, .ref a37, .int v_m_53, .int v_m_54, .int v_m_55, .int v_m_56, .int v_m_57, .int v_m_58, .int v_m_59, .int v_m_60, .ref a38, .int v_m_62, .ref a39, .ref a40, .ref a41, .ref a42, .int v_m_67, .int v_m_68])), (a2, .inl (cB, 1300, .inl g_m_text))] := hD
                              have hq125 := hp
                              refine lv_i2l hx hb dX10_goOn_188 rfl ?_
                              refine t_l (fun y126 => ?_)
                              refine lv_lor hx hb dX10_goOn_189 ?_
                              refine t_l (fun y127 => ?_)
                              refine k_put hC hK hP hD hS iX10 tyX10_ok nmX10 0 10 wf_X10_72 rfl (by decide) rfl rfl rfl rfl (Nat.le_of_ble_eq_true rfl) dX10_goOn_190 (fun H locs hP hD hS => ?_)
                              have hP : va_P G cl [(a0, .inr (10, [.ref a1, .ref a2, .int v_m_2, .int v_m_3, .int v_m_4, .int v_m_5, .int h1, .int h102, .int v_m_8, .int v_m_9, .long y127, .ref a3, .ref a4, .ref a5, .ref a6, .ref a7, .ref a8, .ref a9, .ref a10, .ref a11, .ref a12, .ref a13, .ref a14, .ref a15, .ref a16, .ref a17, .ref a18, .ref a19, .ref a20, .ref a21, .ref a22, .ref a23, .ref a24, .ref a25, .ref a26, .ref a27, .ref a28, .ref a29, .ref a30, .ref a31, .int 0, .int 1, .ref a32, .ref a33, .int v_m_44, .int v_m_45, .int v_m_46, .int v_m_47, .ref a34, .int v_m_49, .ref a35, .ref a36, .ref a37, .int v_m_53, .int v_m_54, .int v_m_55, .int v_m_56, .int v_m_57, .int v_m_58, .int v_m_59, .int v_m_60, .ref a38, .int v_m_62, .ref a39, .ref a40, .ref a41, .ref a42, .int v_m_67, .int v_m_68])), (a2, .inl (cB, 1300, .inl g_m_text))] H := hP
                              have hD : va_D A [(a0, .inr (10, [.ref a1, .ref a2, .int v_m_2, .int v_m_3, .int v_m_4, .int v_m_5, .int h1, .int h102, .int v_m_8, .int v_m_9, .long y127, .ref a3, .ref a4, .ref a5, .ref a6, .ref a7, .ref a8, .ref a9, .ref a10, .ref a11, .ref a12, .ref a13, .ref a14, .ref a15, .ref a16, .ref a17, .ref a18, .ref a19, .ref a20, .ref a21, .ref a22, .ref a23, .ref a24, .ref a25, .ref a26, .ref a27, .ref a28, .ref a29, .ref a30, .ref a31, .int 0, .int 1, .ref a32, .ref a33, .int v_m_44, .int v_m_45, .int v_m_46, .int v_m_47, .ref a34, .int v_m_49, .ref a35, .ref a36, .ref a37, .int v_m_53, .int v_m_54, .int v_m_55, .int v_m_56, .int v_m_57, .int v_m_58, .int v_m_59, .int v_m_60, .ref a38, .int v_m_62, .ref a39, .ref a40, .ref a41, .ref a42, .int v_m_67, .int v_m_68])), (a2, .inl (cB, 1300, .inl g_m_text))] := hD
                              obtain ⟨z128, ez128⟩ : ∃ q : Int32, q = x105 + Int32.ofInt 1 := ⟨_, rfl⟩
                              have tz128 : z128.toInt = x105.toInt + 1 := by rw [ez128]; exact add_i (y := 1) (by have p_ := i_lo x105; show _ ≤ _ + (1 : Int); omega) (by have q_ := i_hi x105; show _ + (1 : Int) ≤ _; omega)
                              refine lv_iinc (v := z128) (lv' := [(2, .int z128), (0, .ref a0), (1, .int r70)]) hx hb dX10_goOn_193 hl (k := 2) rfl ez128.symm (by decide) rfl (fun ls hl => ?_)
                              refine lv_goto (tgt := 156) hx hb dX10_goOn_196 (by decide) ?_
                              exact ih_156  z128 y127 H locs ls (by omega) (by omega) (hP.subm [0, 1] rfl) (hD.sub [0, 1] (by decide) rfl) hS (lv_sub hl [1, 2, 0] rfl)
                      exact L_156 1301 h1 0 H locs ls (by omega) (by omega) (hP.subm [0, 1] rfl) (hD.sub [0, 1] (by decide) rfl) hS (lv_sub hl [1, 2, 0] rfl)
                    · have l_104 : (1 : Int32).toInt = 1 := rfl
                      refine lv_if_eq (tgt := 146) hx hb dX10_goOn_130 (by decide) (fun c_ => absurd c_ (by decide +kernel)) (fun _ => ?_)
                      have as129 : 0 ≤ h102.toInt ∧ h102.toInt ≤ 1299 := by omega
                      refine lv_aload_n hx hb dX10_goOn_133 rfl (lv_at hl 0 rfl) ?_
                      refine lv_dup hx hb dX10_goOn_134 rfl ?_
                      refine k_get hC hK hP iX10 0 7 wf_X10_55 rfl (by decide) rfl rfl dX10_goOn_135 ?_
                      refine lv_iconst (v := 1) hx hb dX10_goOn_138 (by decide) ?_
                      refine lv_iadd hx hb dX10_goOn_139 ?_
                      refine t_i (fun q => q.toInt = h102.toInt + 1) (add_i (by show (-2147483648 : Int) ≤ h102.toInt + 1; omega) (by show h102.toInt + 1 ≤ (2147483647 : Int); omega)) (fun z130 tz130 => ?_)
                      refine k_put hC hK hP hD hS iX10 tyX10_ok nmX10 0 7 wf_X10_55 rfl (by decide) rfl rfl rfl rfl (Nat.le_of_ble_eq_true rfl) dX10_goOn_140 (fun H locs hP hD hS => ?_)
                      have hP : va_P G cl [(a0, .inr (10, [.ref a1, .ref a2, .int v_m_2, .int v_m_3, .int v_m_4, .int v_m_5, .int h1, .int z130, .int v_m_8, .int v_m_9, .long w_m_10, .ref a3, .ref a4, .ref a5, .ref a6, .ref a7, .ref a8, .ref a9, .ref a10, .ref a11, .ref a12, .ref a13, .ref a14, .ref a15, .ref a16, .ref a17, .ref a18, .ref a19, .ref a20, .ref a21, .ref a22, .ref a23, .ref a24, .ref a25, .ref a26, .ref a27, .ref a28, .ref a29, .ref a30, .ref a31, .int 0, .int 1, .ref a32, .ref a33, .int v_m_44, .int v_m_45, .int v_m_46, .int v_m_47, .ref a34, .int v_m_49, .ref a35, .ref a36, .ref a37, .int v_m_53, .int v_m_54, .int v_m_55, .int v_m_56, .int v_m_57, .int v_m_58, .int v_m_59, .int v_m_60, .ref a38, .int v_m_62, .ref a39, .ref a40, .ref a41, .ref a42, .int v_m_67, .int v_m_68])), (a2, .inl (cB, 1300, .inl g_m_text))] H := hP
                      have hD : va_D A [(a0, .inr (10, [.ref a1, .ref a2, .int v_m_2, .int v_m_3, .int v_m_4, .int v_m_5, .int h1, .int z130, .int v_m_8, .int v_m_9, .long w_m_10, .ref a3, .ref a4, .ref a5, .ref a6, .ref a7, .ref a8, .ref a9, .ref a10, .ref a11, .ref a12, .ref a13, .ref a14, .ref a15, .ref a16, .ref a17, .ref a18, .ref a19, .ref a20, .ref a21, .ref a22, .ref a23, .ref a24, .ref a25, .ref a26, .ref a27, .ref a28, .ref a29, .ref a30, .ref a31, .int 0, .int 1, .ref a32, .ref a33, .int v_m_44, .int v_m_45, .int v_m_46, .int v_m_47, .ref a34, .int v_m_49, .ref a35, .ref a36, .ref a37, .int v_m_53, .int v_m_54, .int v_m_55, .int v_m_56, .int v_m_57, .int v_m_58, .int v_m_59, .int v_m_60, .ref a38, .int v_m_62, .ref a39, .ref a40, .ref a41, .ref a42, .int v_m_67, .int v_m_68])), (a2, .inl (cB, 1300, .inl g_m_text))] := hD
                      refine lv_goto (tgt := 119) hx hb dX10_goOn_143 (by decide) ?_
                      exact ih_119  z130 H locs ls (by omega) (by omega) (hP.subm [0, 1] rfl) (hD.sub [0, 1] (by decide) rfl) hS (lv_sub hl [0, 1] rfl)
                exact L_119 1300 z71 H locs ls (by omega) (by omega) (hP.subm [0, 1] rfl) (hD.sub [0, 1] (by decide) rfl) hS (lv_sub hl [1, 0] rfl)
            · have dc72 : v_m_3.toInt ≤ h1.toInt := fa_nlt c72
              refine lv_aload_n hx hb dX10_goOn_88 rfl (lv_at hl 1 rfl) ?_
              refine lv_iconst (v := 0) hx hb dX10_goOn_89 (by decide) ?_
              refine k_put hC hK hP hD hS iX10 tyX10_ok nmX10 0 8 wf_X10_65 rfl (by decide) rfl rfl rfl rfl (Nat.le_of_ble_eq_true rfl) dX10_goOn_90 (fun H locs hP hD hS => ?_)
              have hP : va_P G cl [(a0, .inr (10, [.ref a1, .ref a2, .int v_m_2, .int v_m_3, .int v_m_4, .int v_m_5, .int h1, .int z71, .int 0, .int v_m_9, .long w_m_10, .ref a3, .ref a4, .ref a5, .ref a6, .ref a7, .ref a8, .ref a9, .ref a10, .ref a11, .ref a12, .ref a13, .ref a14, .ref a15, .ref a16, .ref a17, .ref a18, .ref a19, .ref a20, .ref a21, .ref a22, .ref a23, .ref a24, .ref a25, .ref a26, .ref a27, .ref a28, .ref a29, .ref a30, .ref a31, .int 0, .int 1, .ref a32, .ref a33, .int v_m_44, .int v_m_45, .int v_m_46, .int v_m_47, .ref a34, .int v_m_49, .ref a35, .ref a36, .ref a37, .int v_m_53, .int v_m_54, .int v_m_55, .int v_m_56, .int v_m_57, .int v_m_58, .int v_m_59, .int v_m_60, .ref a38, .int v_m_62, .ref a39, .ref a40, .ref a41, .ref a42, .int v_m_67, .int v_m_68])), (a2, .inl (cB, 1300, .inl g_m_text))] H := hP
              have hD : va_D A [(a0, .inr (10, [.ref a1, .ref a2, .int v_m_2, .int v_m_3, .int v_m_4, .int v_m_5, .int h1, .int z71, .int 0, .int v_m_9, .long w_m_10, .ref a3, .ref a4, .ref a5, .ref a6, .ref a7, .ref a8, .ref a9, .ref a10, .ref a11, .ref a12, .ref a13, .ref a14, .ref a15, .ref a16, .ref a17, .ref a18, .ref a19, .ref a20, .ref a21, .ref a22, .ref a23, .ref a24, .ref a25, .ref a26, .ref a27, .ref a28, .ref a29, .ref a30, .ref a31, .int 0, .int 1, .ref a32, .ref a33, .int v_m_44, .int v_m_45, .int v_m_46, .int v_m_47, .ref a34, .int v_m_49, .ref a35, .ref a36, .ref a37, .int v_m_53, .int v_m_54, .int v_m_55, .int v_m_56, .int v_m_57, .int v_m_58, .int v_m_59, .int v_m_60, .ref a38, .int v_m_62, .ref a39, .ref a40, .ref a41, .ref a42, .int v_m_67, .int v_m_68])), (a2, .inl (cB, 1300, .inl g_m_text))] := hD
              refine lv_aload_n hx hb dX10_goOn_93 rfl (lv_at hl 1 rfl) ?_
              refine lv_aload_n hx hb dX10_goOn_94 rfl (lv_at hl 1 rfl) ?_
              refine k_get hC hK hP iX10 0 3 wf_X10_1 rfl (by decide) rfl rfl dX10_goOn_95 ?_
              refine k_put hC hK hP hD hS iX10 tyX10_ok nmX10 0 6 wf_X10_58 rfl (by decide) rfl rfl rfl rfl (Nat.le_of_ble_eq_true rfl) dX10_goOn_98 (fun H locs hP hD hS => ?_)
              have hP : va_P G cl [(a0, .inr (10, [.ref a1, .ref a2, .int v_m_2, .int v_m_3, .int v_m_4, .int v_m_5, .int v_m_3, .int z71, .int 0, .int v_m_9, .long w_m_10, .ref a3, .ref a4, .ref a5, .ref a6, .ref a7, .ref a8, .ref a9, .ref a10, .ref a11, .ref a12, .ref a13, .ref a14, .ref a15, .ref a16, .ref a17, .ref a18, .ref a19, .ref a20, .ref a21, .ref a22, .ref a23, .ref a24, .ref a25, .ref a26, .ref a27, .ref a28, .ref a29, .ref a30, .ref a31, .int 0, .int 1, .ref a32, .ref a33, .int v_m_44, .int v_m_45, .int v_m_46, .int v_m_47, .ref a34, .int v_m_49, .ref a35, .ref a36, .ref a37, .int v_m_53, .int v_m_54, .int v_m_55, .int v_m_56, .int v_m_57, .int v_m_58, .int v_m_59, .int v_m_60, .ref a38, .int v_m_62, .ref a39, .ref a40, .ref a41, .ref a42, .int v_m_67, .int v_m_68])), (a2, .inl (cB, 1300, .inl g_m_text))] H := hP
              have hD : va_D A [(a0, .inr (10, [.ref a1, .ref a2, .int v_m_2, .int v_m_3, .int v_m_4, .int v_m_5, .int v_m_3, .int z71, .int 0, .int v_m_9, .long w_m_10, .ref a3, .ref a4, .ref a5, .ref a6, .ref a7, .ref a8, .ref a9, .ref a10, .ref a11, .ref a12, .ref a13, .ref a14, .ref a15, .ref a16, .ref a17, .ref a18, .ref a19, .ref a20, .ref a21, .ref a22, .ref a23, .ref a24, .ref a25, .ref a26, .ref a27, .ref a28, .ref a29, .ref a30, .ref a31, .int 0, .int 1, .ref a32, .ref a33, .int v_m_44, .int v_m_45, .int v_m_46, .int v_m_47, .ref a34, .int v_m_49, .ref a35, .ref a36, .ref a37, .int v_m_53, .int v_m_54, .int v_m_55, .int v_m_56, .int v_m_57, .int v_m_58, .int v_m_59, .int v_m_60, .ref a38, .int v_m_62, .ref a39, .ref a40, .ref a41, .ref a42, .int v_m_67, .int v_m_68])), (a2, .inl (cB, 1300, .inl g_m_text))] := hD
              refine lv_aload_n hx hb dX10_goOn_101 rfl (lv_at hl 1 rfl) ?_
              refine lv_aload_n hx hb dX10_goOn_102 rfl (lv_at hl 1 rfl) ?_
              refine k_get hC hK hP iX10 0 3 wf_X10_1 rfl (by decide) rfl rfl dX10_goOn_103 ?_
              refine k_put hC hK hP hD hS iX10 tyX10_ok nmX10 0 7 wf_X10_55 rfl (by decide) rfl rfl rfl rfl (Nat.le_of_ble_eq_true rfl) dX10_goOn_106 (fun H locs hP hD hS => ?_)
              have hP : va_P G cl [(a0, .inr (10, [.ref a1, .ref a2, .int v_m_2, .int v_m_3, .int v_m_4, .int v_m_5, .int v_m_3, .int v_m_3, .int 0, .int v_m_9, .long w_m_10, .ref a3, .ref a4, .ref a5, .ref a6, .ref a7, .ref a8, .ref a9, .ref a10, .ref a11, .ref a12, .ref a13, .ref a14, .ref a15, .ref a16, .ref a17, .ref a18, .ref a19, .ref a20, .ref a21, .ref a22, .ref a23, .ref a24, .ref a25, .ref a26, .ref a27, .ref a28, .ref a29, .ref a30, .ref a31, .int 0, .int 1, .ref a32, .ref a33, .int v_m_44, .int v_m_45, .int v_m_46, .int v_m_47, .ref a34, .int v_m_49, .ref a35, .ref a36, .ref a37, .int v_m_53, .int v_m_54, .int v_m_55, .int v_m_56, .int v_m_57, .int v_m_58, .int v_m_59, .int v_m_60, .ref a38, .int v_m_62, .ref a39, .ref a40, .ref a41, .ref a42, .int v_m_67, .int v_m_68])), (a2, .inl (cB, 1300, .inl g_m_text))] H := hP
              have hD : va_D A [(a0, .inr (10, [.ref a1, .ref a2, .int v_m_2, .int v_m_3, .int v_m_4, .int v_m_5, .int v_m_3, .int v_m_3, .int 0, .int v_m_9, .long w_m_10, .ref a3, .ref a4, .ref a5, .ref a6, .ref a7, .ref a8, .ref a9, .ref a10, .ref a11, .ref a12, .ref a13, .ref a14, .ref a15, .ref a16, .ref a17, .ref a18, .ref a19, .ref a20, .ref a21, .ref a22, .ref a23, .ref a24, .ref a25, .ref a26, .ref a27, .ref a28, .ref a29, .ref a30, .ref a31, .int 0, .int 1, .ref a32, .ref a33, .int v_m_44, .int v_m_45, .int v_m_46, .int v_m_47, .ref a34, .int v_m_49, .ref a35, .ref a36, .ref a37, .int v_m_53, .int v_m_54, .int v_m_55, .int v_m_56, .int v_m_57, .int v_m_58, .int v_m_59, .int v_m_60, .ref a38, .int v_m_62, .ref a39, .ref a40, .ref a41, .ref a42, .int v_m_67, .int v_m_68])), (a2, .inl (cB, 1300, .inl g_m_text))] := hD
              refine lv_goto (tgt := 376) hx hb dX10_goOn_109 (by decide) ?_
              have l_l131 : (0 : Int32).toInt = 0 := rfl
              rw [← hQm]
              exact k_vret hC hr hlk hK hP hD hS (v_m_3, v_m_3, 0, v_m_9, w_m_10) [0, 1] rfl (by decide) (show 0 ≤ v_m_3.toInt ∧ v_m_3.toInt ≤ 1300 ∧ 0 ≤ v_m_3.toInt ∧ v_m_3.toInt ≤ 1300 ∧ 0 ≤ (0 : Int32).toInt ∧ (0 : Int32).toInt ≤ 5 ∧ 0 ≤ v_m_9.toInt ∧ v_m_9.toInt ≤ 9999 ∧ (v_m_7.toInt ≤ v_m_3.toInt) ∧ ((0 : Int32).toInt ≤ 5 * (v_m_3.toInt - v_m_7.toInt)) ∧ (v_m_3.toInt ≤ v_m_3.toInt) from by omega) (Nat.le_of_ble_eq_true rfl) (Nat.le_of_ble_eq_true rfl) dX10_goOn_376
          · have dc69 : r68.toInt = 10 := (fa_eq _ _).mp c69
            refine lv_aload_n hx hb dX10_goOn_45 rfl (lv_at hl 0 rfl) ?_
            refine lv_dup hx hb dX10_goOn_46 rfl ?_
            refine k_get hC hK hP iX10 0 6 wf_X10_58 rfl (by decide) rfl rfl dX10_goOn_47 ?_
            refine lv_iconst (v := 1) hx hb dX10_goOn_50 (by decide) ?_
            refine lv_iadd hx hb dX10_goOn_51 ?_
            refine t_i (fun q => q.toInt = h1.toInt + 1) (add_i (by show (-2147483648 : Int) ≤ h1.toInt + 1; omega) (by show h1.toInt + 1 ≤ (2147483647 : Int); omega)) (fun z132 tz132 => ?_)
            refine k_put hC hK hP hD hS iX10 tyX10_ok nmX10 0 6 wf_X10_58 rfl (by decide) rfl rfl rfl rfl (Nat.le_of_ble_eq_true rfl) dX10_goOn_52 (fun H locs hP hD hS => ?_)
            have hP : va_P G cl [(a0, .inr (10, [.ref a1, .ref a2, .int v_m_2, .int v_m_3, .int v_m_4, .int v_m_5, .int z132, .int v_m_7, .int v_m_8, .int v_m_9, .long w_m_10, .ref a3, .ref a4, .ref a5, .ref a6, .ref a7, .ref a8, .ref a9, .ref a10, .ref a11, .ref a12, .ref a13, .ref a14, .ref a15, .ref a16, .ref a17, .ref a18, .ref a19, .ref a20, .ref a21, .ref a22, .ref a23, .ref a24, .ref a25, .ref a26, .ref a27, .ref a28, .ref a29, .ref a30, .ref a31, .int 0, .int 1, .ref a32, .ref a33, .int v_m_44, .int v_m_45, .int v_m_46, .int v_m_47, .ref a34, .int v_m_49, .ref a35, .ref a36, .ref a37, .int v_m_53, .int v_m_54, .int v_m_55, .int v_m_56, .int v_m_57, .int v_m_58, .int v_m_59, .int v_m_60, .ref a38, .int v_m_62, .ref a39, .ref a40, .ref a41, .ref a42, .int v_m_67, .int v_m_68])), (a2, .inl (cB, 1300, .inl g_m_text))] H := hP
            have hD : va_D A [(a0, .inr (10, [.ref a1, .ref a2, .int v_m_2, .int v_m_3, .int v_m_4, .int v_m_5, .int z132, .int v_m_7, .int v_m_8, .int v_m_9, .long w_m_10, .ref a3, .ref a4, .ref a5, .ref a6, .ref a7, .ref a8, .ref a9, .ref a10, .ref a11, .ref a12, .ref a13, .ref a14, .ref a15, .ref a16, .ref a17, .ref a18, .ref a19, .ref a20, .ref a21, .ref a22, .ref a23, .ref a24, .ref a25, .ref a26, .ref a27, .ref a28, .ref a29, .ref a30, .ref a31, .int 0, .int 1, .ref a32, .ref a33, .int v_m_44, .int v_m_45, .int v_m_46, .int v_m_47, .ref a34, .int v_m_49, .ref a35, .ref a36, .ref a37, .int v_m_53, .int v_m_54, .int v_m_55, .int v_m_56, .int v_m_57, .int v_m_58, .int v_m_59, .int v_m_60, .ref a38, .int v_m_62, .ref a39, .ref a40, .ref a41, .ref a42, .int v_m_67, .int v_m_68])), (a2, .inl (cB, 1300, .inl g_m_text))] := hD
            refine lv_goto (tgt := 8) hx hb dX10_goOn_55 (by decide) ?_
            exact ih  z132 H locs ls (by omega) (by omega) (hP.subm [0, 1] rfl) (hD.sub [0, 1] (by decide) rfl) hS (lv_sub hl [0] rfl)
  exact L_8 1301 v_m_7 H locs ls (by omega) (by omega) (hP.subm [0, 1] rfl) (hD.sub [0, 1] (by decide) rfl) hS (lv_sub hl [0] rfl)
