/-! J's runs are the machine's. -/
variable {l : Launch} {G : j_G} {d mi pc n t : Nat} {L L' : j_L} {S S' : List Value} {σ σ' τ : j_St} {r : Option Value} {sw : List (Int32 × Nat)}
/-- which end a method has (a check of the tables) -/
def j_rtc (ty : Option FieldType) (q : Nat × j_CE) : Bool := match q.2.1 with
  | .areturn => (match ty with
    | some t => j_isR t
    | none => false)
  | .return_ => decide (ty = none)
  | _ => true
theorem jrt_0 : jl_0.all (j_rtc jm_0.2.2.2.2.2.2.1) = true := by decide +kernel
theorem jrt_1 : jl_1.all (j_rtc jm_1.2.2.2.2.2.2.1) = true := by decide +kernel
theorem jrt_2 : jl_2.all (j_rtc jm_2.2.2.2.2.2.2.1) = true := by decide +kernel
theorem jrt_3 : jl_3.all (j_rtc jm_3.2.2.2.2.2.2.1) = true := by decide +kernel
theorem jrt_4 : jl_4.all (j_rtc jm_4.2.2.2.2.2.2.1) = true := by decide +kernel
theorem jrt_5 : jl_5.all (j_rtc jm_5.2.2.2.2.2.2.1) = true := by decide +kernel
theorem jrt_6 : jl_6.all (j_rtc jm_6.2.2.2.2.2.2.1) = true := by decide +kernel
theorem jrt_7 : jl_7.all (j_rtc jm_7.2.2.2.2.2.2.1) = true := by decide +kernel
theorem jrt_8 : jl_8.all (j_rtc jm_8.2.2.2.2.2.2.1) = true := by decide +kernel
theorem jrt_9 : jl_9.all (j_rtc jm_9.2.2.2.2.2.2.1) = true := by decide +kernel
theorem jrt_10 : jl_10.all (j_rtc jm_10.2.2.2.2.2.2.1) = true := by decide +kernel
theorem jrt_11 : jl_11.all (j_rtc jm_11.2.2.2.2.2.2.1) = true := by decide +kernel
theorem jrt_12 : jl_12.all (j_rtc jm_12.2.2.2.2.2.2.1) = true := by decide +kernel
theorem jrt_13 : jl_13.all (j_rtc jm_13.2.2.2.2.2.2.1) = true := by decide +kernel
theorem jrt_14 : jl_14.all (j_rtc jm_14.2.2.2.2.2.2.1) = true := by decide +kernel
theorem jrt_15 : jl_15.all (j_rtc jm_15.2.2.2.2.2.2.1) = true := by decide +kernel
theorem jrt_16 : jl_16.all (j_rtc jm_16.2.2.2.2.2.2.1) = true := by decide +kernel
theorem jrt_17 : jl_17.all (j_rtc jm_17.2.2.2.2.2.2.1) = true := by decide +kernel
theorem jrt_18 : jl_18.all (j_rtc jm_18.2.2.2.2.2.2.1) = true := by decide +kernel
theorem jrt_19 : jl_19.all (j_rtc jm_19.2.2.2.2.2.2.1) = true := by decide +kernel
theorem jrt_20 : jl_20.all (j_rtc jm_20.2.2.2.2.2.2.1) = true := by decide +kernel
theorem jrt_21 : jl_21.all (j_rtc jm_21.2.2.2.2.2.2.1) = true := by decide +kernel
theorem jrt_22 : jl_22.all (j_rtc jm_22.2.2.2.2.2.2.1) = true := by decide +kernel
theorem jrt_23 : jl_23.all (j_rtc jm_23.2.2.2.2.2.2.1) = true := by decide +kernel
theorem jrt_24 : jl_24.all (j_rtc jm_24.2.2.2.2.2.2.1) = true := by decide +kernel
theorem jrt_25 : jl_25.all (j_rtc jm_25.2.2.2.2.2.2.1) = true := by decide +kernel
theorem jrt_26 : jl_26.all (j_rtc jm_26.2.2.2.2.2.2.1) = true := by decide +kernel
theorem jrt_27 : jl_27.all (j_rtc jm_27.2.2.2.2.2.2.1) = true := by decide +kernel
theorem jrt_28 : jl_28.all (j_rtc jm_28.2.2.2.2.2.2.1) = true := by decide +kernel
theorem jrt_29 : jl_29.all (j_rtc jm_29.2.2.2.2.2.2.1) = true := by decide +kernel
theorem jrt_30 : jl_30.all (j_rtc jm_30.2.2.2.2.2.2.1) = true := by decide +kernel
theorem jrt_31 : jl_31.all (j_rtc jm_31.2.2.2.2.2.2.1) = true := by decide +kernel
theorem jrt_32 : jl_32.all (j_rtc jm_32.2.2.2.2.2.2.1) = true := by decide +kernel
theorem jrt_33 : jl_33.all (j_rtc jm_33.2.2.2.2.2.2.1) = true := by decide +kernel
theorem jrt_34 : jl_34.all (j_rtc jm_34.2.2.2.2.2.2.1) = true := by decide +kernel
theorem jrt_35 : jl_35.all (j_rtc jm_35.2.2.2.2.2.2.1) = true := by decide +kernel
theorem jrt_36 : jl_36.all (j_rtc jm_36.2.2.2.2.2.2.1) = true := by decide +kernel
theorem jrt_37 : jl_37.all (j_rtc jm_37.2.2.2.2.2.2.1) = true := by decide +kernel
theorem jrt_38 : jl_38.all (j_rtc jm_38.2.2.2.2.2.2.1) = true := by decide +kernel
theorem jrt_39 : jl_39.all (j_rtc jm_39.2.2.2.2.2.2.1) = true := by decide +kernel
theorem jrt_40 : jl_40.all (j_rtc jm_40.2.2.2.2.2.2.1) = true := by decide +kernel
theorem jrt_41 : jl_41.all (j_rtc jm_41.2.2.2.2.2.2.1) = true := by decide +kernel
theorem jrt_42 : jl_42.all (j_rtc jm_42.2.2.2.2.2.2.1) = true := by decide +kernel
theorem jrt_43 : jl_43.all (j_rtc jm_43.2.2.2.2.2.2.1) = true := by decide +kernel
theorem jrt_44 : jl_44.all (j_rtc jm_44.2.2.2.2.2.2.1) = true := by decide +kernel
theorem jrt_45 : jl_45.all (j_rtc jm_45.2.2.2.2.2.2.1) = true := by decide +kernel
theorem jrt_46 : jl_46.all (j_rtc jm_46.2.2.2.2.2.2.1) = true := by decide +kernel
theorem jrt_47 : jl_47.all (j_rtc jm_47.2.2.2.2.2.2.1) = true := by decide +kernel
theorem jrt_48 : jl_48.all (j_rtc jm_48.2.2.2.2.2.2.1) = true := by decide +kernel
theorem jrt_49 : jl_49.all (j_rtc jm_49.2.2.2.2.2.2.1) = true := by decide +kernel
theorem jrt_50 : jl_50.all (j_rtc jm_50.2.2.2.2.2.2.1) = true := by decide +kernel
theorem jrt_51 : jl_51.all (j_rtc jm_51.2.2.2.2.2.2.1) = true := by decide +kernel
theorem jrt_52 : jl_52.all (j_rtc jm_52.2.2.2.2.2.2.1) = true := by decide +kernel
theorem jrt_53 : jl_53.all (j_rtc jm_53.2.2.2.2.2.2.1) = true := by decide +kernel
theorem jrt_54 : jl_54.all (j_rtc jm_54.2.2.2.2.2.2.1) = true := by decide +kernel
theorem jrt_55 : jl_55.all (j_rtc jm_55.2.2.2.2.2.2.1) = true := by decide +kernel
theorem jrt_56 : jl_56.all (j_rtc jm_56.2.2.2.2.2.2.1) = true := by decide +kernel
theorem jrt_57 : jl_57.all (j_rtc jm_57.2.2.2.2.2.2.1) = true := by decide +kernel
theorem jrt_58 : jl_58.all (j_rtc jm_58.2.2.2.2.2.2.1) = true := by decide +kernel
theorem jrt_59 : jl_59.all (j_rtc jm_59.2.2.2.2.2.2.1) = true := by decide +kernel
theorem jrt_60 : jl_60.all (j_rtc jm_60.2.2.2.2.2.2.1) = true := by decide +kernel
theorem jrt_61 : jl_61.all (j_rtc jm_61.2.2.2.2.2.2.1) = true := by decide +kernel
theorem jrt_62 : jl_62.all (j_rtc jm_62.2.2.2.2.2.2.1) = true := by decide +kernel
theorem jrt_63 : jl_63.all (j_rtc jm_63.2.2.2.2.2.2.1) = true := by decide +kernel
theorem jrt_64 : jl_64.all (j_rtc jm_64.2.2.2.2.2.2.1) = true := by decide +kernel
theorem jrt_65 : jl_65.all (j_rtc jm_65.2.2.2.2.2.2.1) = true := by decide +kernel
theorem jrt_66 : jl_66.all (j_rtc jm_66.2.2.2.2.2.2.1) = true := by decide +kernel
theorem jrt_67 : jl_67.all (j_rtc jm_67.2.2.2.2.2.2.1) = true := by decide +kernel
theorem jrt_68 : jl_68.all (j_rtc jm_68.2.2.2.2.2.2.1) = true := by decide +kernel
theorem jrt_69 : jl_69.all (j_rtc jm_69.2.2.2.2.2.2.1) = true := by decide +kernel
theorem jrt_70 : jl_70.all (j_rtc jm_70.2.2.2.2.2.2.1) = true := by decide +kernel
theorem jrt_71 : jl_71.all (j_rtc jm_71.2.2.2.2.2.2.1) = true := by decide +kernel
theorem jrt_72 : jl_72.all (j_rtc jm_72.2.2.2.2.2.2.1) = true := by decide +kernel
theorem jrt_73 : jl_73.all (j_rtc jm_73.2.2.2.2.2.2.1) = true := by decide +kernel
theorem jrt_74 : jl_74.all (j_rtc jm_74.2.2.2.2.2.2.1) = true := by decide +kernel
theorem jrt_75 : jl_75.all (j_rtc jm_75.2.2.2.2.2.2.1) = true := by decide +kernel
theorem jrt_76 : jl_76.all (j_rtc jm_76.2.2.2.2.2.2.1) = true := by decide +kernel
theorem jrt_77 : jl_77.all (j_rtc jm_77.2.2.2.2.2.2.1) = true := by decide +kernel
theorem jrt_78 : jl_78.all (j_rtc jm_78.2.2.2.2.2.2.1) = true := by decide +kernel
theorem jrt_79 : jl_79.all (j_rtc jm_79.2.2.2.2.2.2.1) = true := by decide +kernel
theorem jrt_80 : jl_80.all (j_rtc jm_80.2.2.2.2.2.2.1) = true := by decide +kernel
theorem jrt_81 : jl_81.all (j_rtc jm_81.2.2.2.2.2.2.1) = true := by decide +kernel
theorem jrt_82 : jl_82.all (j_rtc jm_82.2.2.2.2.2.2.1) = true := by decide +kernel
theorem jrt_83 : jl_83.all (j_rtc jm_83.2.2.2.2.2.2.1) = true := by decide +kernel
theorem jrt_84 : jl_84.all (j_rtc jm_84.2.2.2.2.2.2.1) = true := by decide +kernel
theorem jrt_85 : jl_85.all (j_rtc jm_85.2.2.2.2.2.2.1) = true := by decide +kernel
theorem jrt_86 : jl_86.all (j_rtc jm_86.2.2.2.2.2.2.1) = true := by decide +kernel
theorem jrt_87 : jl_87.all (j_rtc jm_87.2.2.2.2.2.2.1) = true := by decide +kernel
theorem jrt_88 : jl_88.all (j_rtc jm_88.2.2.2.2.2.2.1) = true := by decide +kernel
theorem jrt_89 : jl_89.all (j_rtc jm_89.2.2.2.2.2.2.1) = true := by decide +kernel
theorem jrt_90 : jl_90.all (j_rtc jm_90.2.2.2.2.2.2.1) = true := by decide +kernel
theorem jrt_91 : jl_91.all (j_rtc jm_91.2.2.2.2.2.2.1) = true := by decide +kernel
theorem jrt_92 : jl_92.all (j_rtc jm_92.2.2.2.2.2.2.1) = true := by decide +kernel
theorem jrt_93 : jl_93.all (j_rtc jm_93.2.2.2.2.2.2.1) = true := by decide +kernel
theorem jrt_94 : jl_94.all (j_rtc jm_94.2.2.2.2.2.2.1) = true := by decide +kernel
theorem jrt_95 : jl_95.all (j_rtc jm_95.2.2.2.2.2.2.1) = true := by decide +kernel
theorem jrt_96 : jl_96.all (j_rtc jm_96.2.2.2.2.2.2.1) = true := by decide +kernel
theorem jrt_97 : jl_97.all (j_rtc jm_97.2.2.2.2.2.2.1) = true := by decide +kernel
theorem jrt_98 : jl_98.all (j_rtc jm_98.2.2.2.2.2.2.1) = true := by decide +kernel
theorem jrt_99 : jl_99.all (j_rtc jm_99.2.2.2.2.2.2.1) = true := by decide +kernel
theorem jrt_100 : jl_100.all (j_rtc jm_100.2.2.2.2.2.2.1) = true := by decide +kernel
theorem jrt_101 : jl_101.all (j_rtc jm_101.2.2.2.2.2.2.1) = true := by decide +kernel
theorem jrt_102 : jl_102.all (j_rtc jm_102.2.2.2.2.2.2.1) = true := by decide +kernel
theorem jrt_103 : jl_103.all (j_rtc jm_103.2.2.2.2.2.2.1) = true := by decide +kernel
theorem jrt_104 : jl_104.all (j_rtc jm_104.2.2.2.2.2.2.1) = true := by decide +kernel
theorem jrt_105 : jl_105.all (j_rtc jm_105.2.2.2.2.2.2.1) = true := by decide +kernel
theorem jrt_106 : jl_106.all (j_rtc jm_106.2.2.2.2.2.2.1) = true := by decide +kernel
theorem jrt_107 : jl_107.all (j_rtc jm_107.2.2.2.2.2.2.1) = true := by decide +kernel
theorem jrt_108 : jl_108.all (j_rtc jm_108.2.2.2.2.2.2.1) = true := by decide +kernel
theorem jrt_109 : jl_109.all (j_rtc jm_109.2.2.2.2.2.2.1) = true := by decide +kernel
theorem jrt_110 : jl_110.all (j_rtc jm_110.2.2.2.2.2.2.1) = true := by decide +kernel
theorem jrt_111 : jl_111.all (j_rtc jm_111.2.2.2.2.2.2.1) = true := by decide +kernel
theorem jrt_112 : jl_112.all (j_rtc jm_112.2.2.2.2.2.2.1) = true := by decide +kernel
theorem jrt_113 : jl_113.all (j_rtc jm_113.2.2.2.2.2.2.1) = true := by decide +kernel
theorem jrt_114 : jl_114.all (j_rtc jm_114.2.2.2.2.2.2.1) = true := by decide +kernel
theorem jrt_115 : jl_115.all (j_rtc jm_115.2.2.2.2.2.2.1) = true := by decide +kernel
theorem jrt_116 : jl_116.all (j_rtc jm_116.2.2.2.2.2.2.1) = true := by decide +kernel
theorem jrt_117 : jl_117.all (j_rtc jm_117.2.2.2.2.2.2.1) = true := by decide +kernel
theorem jrt_118 : jl_118.all (j_rtc jm_118.2.2.2.2.2.2.1) = true := by decide +kernel
theorem jrt_119 : jl_119.all (j_rtc jm_119.2.2.2.2.2.2.1) = true := by decide +kernel
theorem jrt_120 : jl_120.all (j_rtc jm_120.2.2.2.2.2.2.1) = true := by decide +kernel
theorem jrt_121 : jl_121.all (j_rtc jm_121.2.2.2.2.2.2.1) = true := by decide +kernel
theorem jrt_122 : jl_122.all (j_rtc jm_122.2.2.2.2.2.2.1) = true := by decide +kernel
theorem jrt_123 : jl_123.all (j_rtc jm_123.2.2.2.2.2.2.1) = true := by decide +kernel
theorem jrt_124 : jl_124.all (j_rtc jm_124.2.2.2.2.2.2.1) = true := by decide +kernel
theorem jrt_125 : jl_125.all (j_rtc jm_125.2.2.2.2.2.2.1) = true := by decide +kernel
theorem jrt_126 : jl_126.all (j_rtc jm_126.2.2.2.2.2.2.1) = true := by decide +kernel
theorem jrt_127 : jl_127.all (j_rtc jm_127.2.2.2.2.2.2.1) = true := by decide +kernel
theorem jrt_128 : jl_128.all (j_rtc jm_128.2.2.2.2.2.2.1) = true := by decide +kernel
theorem jrt_129 : jl_129.all (j_rtc jm_129.2.2.2.2.2.2.1) = true := by decide +kernel
theorem jrt_130 : jl_130.all (j_rtc jm_130.2.2.2.2.2.2.1) = true := by decide +kernel
theorem jrt_131 : jl_131.all (j_rtc jm_131.2.2.2.2.2.2.1) = true := by decide +kernel
theorem jrt_132 : jl_132.all (j_rtc jm_132.2.2.2.2.2.2.1) = true := by decide +kernel
theorem jrt_133 : jl_133.all (j_rtc jm_133.2.2.2.2.2.2.1) = true := by decide +kernel
theorem jrt_134 : jl_134.all (j_rtc jm_134.2.2.2.2.2.2.1) = true := by decide +kernel
theorem jrt_135 : jl_135.all (j_rtc jm_135.2.2.2.2.2.2.1) = true := by decide +kernel
theorem jrt_136 : jl_136.all (j_rtc jm_136.2.2.2.2.2.2.1) = true := by decide +kernel
theorem jrt_137 : jl_137.all (j_rtc jm_137.2.2.2.2.2.2.1) = true := by decide +kernel
theorem jrt_138 : jl_138.all (j_rtc jm_138.2.2.2.2.2.2.1) = true := by decide +kernel
theorem jrt_139 : jl_139.all (j_rtc jm_139.2.2.2.2.2.2.1) = true := by decide +kernel
theorem jrt_140 : jl_140.all (j_rtc jm_140.2.2.2.2.2.2.1) = true := by decide +kernel
theorem jrt_141 : jl_141.all (j_rtc jm_141.2.2.2.2.2.2.1) = true := by decide +kernel
theorem jrt_142 : jl_142.all (j_rtc jm_142.2.2.2.2.2.2.1) = true := by decide +kernel
theorem jrt_143 : jl_143.all (j_rtc jm_143.2.2.2.2.2.2.1) = true := by decide +kernel
theorem jrt_144 : jl_144.all (j_rtc jm_144.2.2.2.2.2.2.1) = true := by decide +kernel
theorem jrt_145 : jl_145.all (j_rtc jm_145.2.2.2.2.2.2.1) = true := by decide +kernel
theorem jrt_146 : jl_146.all (j_rtc jm_146.2.2.2.2.2.2.1) = true := by decide +kernel
theorem jrt_147 : jl_147.all (j_rtc jm_147.2.2.2.2.2.2.1) = true := by decide +kernel
theorem jrt_148 : jl_148.all (j_rtc jm_148.2.2.2.2.2.2.1) = true := by decide +kernel
theorem jrt_149 : jl_149.all (j_rtc jm_149.2.2.2.2.2.2.1) = true := by decide +kernel
theorem jrt_150 : jl_150.all (j_rtc jm_150.2.2.2.2.2.2.1) = true := by decide +kernel
theorem jrt_151 : jl_151.all (j_rtc jm_151.2.2.2.2.2.2.1) = true := by decide +kernel
theorem jrt_152 : jl_152.all (j_rtc jm_152.2.2.2.2.2.2.1) = true := by decide +kernel
theorem jrt_153 : jl_153.all (j_rtc jm_153.2.2.2.2.2.2.1) = true := by decide +kernel
theorem jrt_154 : jl_154.all (j_rtc jm_154.2.2.2.2.2.2.1) = true := by decide +kernel
theorem jrt_155 : jl_155.all (j_rtc jm_155.2.2.2.2.2.2.1) = true := by decide +kernel
theorem jrt_156 : jl_156.all (j_rtc jm_156.2.2.2.2.2.2.1) = true := by decide +kernel
theorem jrt_157 : jl_157.all (j_rtc jm_157.2.2.2.2.2.2.1) = true := by decide +kernel
theorem jrt_158 : jl_158.all (j_rtc jm_158.2.2.2.2.2.2.1) = true := by decide +kernel
theorem jrt_159 : jl_159.all (j_rtc jm_159.2.2.2.2.2.2.1) = true := by decide +kernel
theorem jrt_160 : jl_160.all (j_rtc jm_160.2.2.2.2.2.2.1) = true := by decide +kernel
theorem jrt_161 : jl_161.all (j_rtc jm_161.2.2.2.2.2.2.1) = true := by decide +kernel
theorem jrt_162 : jl_162.all (j_rtc jm_162.2.2.2.2.2.2.1) = true := by decide +kernel
theorem jrt_163 : jl_163.all (j_rtc jm_163.2.2.2.2.2.2.1) = true := by decide +kernel
theorem jrt_164 : jl_164.all (j_rtc jm_164.2.2.2.2.2.2.1) = true := by decide +kernel
theorem jrt_165 : jl_165.all (j_rtc jm_165.2.2.2.2.2.2.1) = true := by decide +kernel
theorem jrt_166 : jl_166.all (j_rtc jm_166.2.2.2.2.2.2.1) = true := by decide +kernel
theorem jrt_167 : jl_167.all (j_rtc jm_167.2.2.2.2.2.2.1) = true := by decide +kernel
theorem jrt_168 : jl_168.all (j_rtc jm_168.2.2.2.2.2.2.1) = true := by decide +kernel
theorem jrt_169 : jl_169.all (j_rtc jm_169.2.2.2.2.2.2.1) = true := by decide +kernel
theorem jrt_170 : jl_170.all (j_rtc jm_170.2.2.2.2.2.2.1) = true := by decide +kernel
theorem jrt_171 : jl_171.all (j_rtc jm_171.2.2.2.2.2.2.1) = true := by decide +kernel
theorem jrt_172 : jl_172.all (j_rtc jm_172.2.2.2.2.2.2.1) = true := by decide +kernel
theorem jrt_173 : jl_173.all (j_rtc jm_173.2.2.2.2.2.2.1) = true := by decide +kernel
theorem jrt_174 : jl_174.all (j_rtc jm_174.2.2.2.2.2.2.1) = true := by decide +kernel
theorem jrt_175 : jl_175.all (j_rtc jm_175.2.2.2.2.2.2.1) = true := by decide +kernel
theorem jrt_176 : jl_176.all (j_rtc jm_176.2.2.2.2.2.2.1) = true := by decide +kernel
theorem jrt_177 : jl_177.all (j_rtc jm_177.2.2.2.2.2.2.1) = true := by decide +kernel
theorem jrt_178 : jl_178.all (j_rtc jm_178.2.2.2.2.2.2.1) = true := by decide +kernel
theorem jrt_179 : jl_179.all (j_rtc jm_179.2.2.2.2.2.2.1) = true := by decide +kernel
theorem jrt_180 : jl_180.all (j_rtc jm_180.2.2.2.2.2.2.1) = true := by decide +kernel
theorem jrt_181 : jl_181.all (j_rtc jm_181.2.2.2.2.2.2.1) = true := by decide +kernel
theorem jrt_182 : jl_182.all (j_rtc jm_182.2.2.2.2.2.2.1) = true := by decide +kernel
theorem jrt_183 : jl_183.all (j_rtc jm_183.2.2.2.2.2.2.1) = true := by decide +kernel
theorem jrt_184 : jl_184.all (j_rtc jm_184.2.2.2.2.2.2.1) = true := by decide +kernel
theorem jrt_185 : jl_185.all (j_rtc jm_185.2.2.2.2.2.2.1) = true := by decide +kernel
theorem jrt_186 : jl_186.all (j_rtc jm_186.2.2.2.2.2.2.1) = true := by decide +kernel
theorem jrt_187 : jl_187.all (j_rtc jm_187.2.2.2.2.2.2.1) = true := by decide +kernel
theorem jrt_188 : jl_188.all (j_rtc jm_188.2.2.2.2.2.2.1) = true := by decide +kernel
theorem jrt_189 : jl_189.all (j_rtc jm_189.2.2.2.2.2.2.1) = true := by decide +kernel
theorem jrt_190 : jl_190.all (j_rtc jm_190.2.2.2.2.2.2.1) = true := by decide +kernel
theorem jrt_191 : jl_191.all (j_rtc jm_191.2.2.2.2.2.2.1) = true := by decide +kernel
theorem jrt_192 : jl_192.all (j_rtc jm_192.2.2.2.2.2.2.1) = true := by decide +kernel
theorem jrt_193 : jl_193.all (j_rtc jm_193.2.2.2.2.2.2.1) = true := by decide +kernel
theorem jrt_194 : jl_194.all (j_rtc jm_194.2.2.2.2.2.2.1) = true := by decide +kernel
theorem jrt_195 : jl_195.all (j_rtc jm_195.2.2.2.2.2.2.1) = true := by decide +kernel
theorem jrt_196 : jl_196.all (j_rtc jm_196.2.2.2.2.2.2.1) = true := by decide +kernel
theorem jrt_197 : jl_197.all (j_rtc jm_197.2.2.2.2.2.2.1) = true := by decide +kernel
theorem jrt_198 : jl_198.all (j_rtc jm_198.2.2.2.2.2.2.1) = true := by decide +kernel
theorem jrt_199 : jl_199.all (j_rtc jm_199.2.2.2.2.2.2.1) = true := by decide +kernel
theorem jrt_200 : jl_200.all (j_rtc jm_200.2.2.2.2.2.2.1) = true := by decide +kernel
theorem jrt_201 : jl_201.all (j_rtc jm_201.2.2.2.2.2.2.1) = true := by decide +kernel
theorem jrt_202 : jl_202.all (j_rtc jm_202.2.2.2.2.2.2.1) = true := by decide +kernel
theorem jrt_203 : jl_203.all (j_rtc jm_203.2.2.2.2.2.2.1) = true := by decide +kernel
theorem jrt_204 : jl_204.all (j_rtc jm_204.2.2.2.2.2.2.1) = true := by decide +kernel
theorem jrt_205 : jl_205.all (j_rtc jm_205.2.2.2.2.2.2.1) = true := by decide +kernel
theorem jrt_206 : jl_206.all (j_rtc jm_206.2.2.2.2.2.2.1) = true := by decide +kernel
theorem jrt_207 : jl_207.all (j_rtc jm_207.2.2.2.2.2.2.1) = true := by decide +kernel
theorem jrt_208 : jl_208.all (j_rtc jm_208.2.2.2.2.2.2.1) = true := by decide +kernel
theorem jrt_209 : jl_209.all (j_rtc jm_209.2.2.2.2.2.2.1) = true := by decide +kernel
theorem jrt_210 : jl_210.all (j_rtc jm_210.2.2.2.2.2.2.1) = true := by decide +kernel
theorem jrt_211 : jl_211.all (j_rtc jm_211.2.2.2.2.2.2.1) = true := by decide +kernel
theorem jrt_212 : jl_212.all (j_rtc jm_212.2.2.2.2.2.2.1) = true := by decide +kernel
theorem jrt_213 : jl_213.all (j_rtc jm_213.2.2.2.2.2.2.1) = true := by decide +kernel
theorem jrt_214 : jl_214.all (j_rtc jm_214.2.2.2.2.2.2.1) = true := by decide +kernel
theorem jrt_215 : jl_215.all (j_rtc jm_215.2.2.2.2.2.2.1) = true := by decide +kernel
theorem jrt_216 : jl_216.all (j_rtc jm_216.2.2.2.2.2.2.1) = true := by decide +kernel
theorem jrt_217 : jl_217.all (j_rtc jm_217.2.2.2.2.2.2.1) = true := by decide +kernel
theorem jrt_218 : jl_218.all (j_rtc jm_218.2.2.2.2.2.2.1) = true := by decide +kernel
theorem jrt_219 : jl_219.all (j_rtc jm_219.2.2.2.2.2.2.1) = true := by decide +kernel
theorem jrt_220 : jl_220.all (j_rtc jm_220.2.2.2.2.2.2.1) = true := by decide +kernel
theorem jrt_221 : jl_221.all (j_rtc jm_221.2.2.2.2.2.2.1) = true := by decide +kernel
theorem jrt_222 : jl_222.all (j_rtc jm_222.2.2.2.2.2.2.1) = true := by decide +kernel
theorem jrt_223 : jl_223.all (j_rtc jm_223.2.2.2.2.2.2.1) = true := by decide +kernel
theorem jrt_224 : jl_224.all (j_rtc jm_224.2.2.2.2.2.2.1) = true := by decide +kernel
theorem jrt_225 : jl_225.all (j_rtc jm_225.2.2.2.2.2.2.1) = true := by decide +kernel
set_option maxRecDepth 100000 in
theorem j_rtall : ∀ m ∈ j_mt, m.2.2.2.2.2.2.2.all (j_rtc m.2.2.2.2.2.2.1) = true := List.forall_mem_cons.mpr ⟨jrt_0, List.forall_mem_cons.mpr ⟨jrt_1, List.forall_mem_cons.mpr ⟨jrt_2, List.forall_mem_cons.mpr ⟨jrt_3, List.forall_mem_cons.mpr ⟨jrt_4, List.forall_mem_cons.mpr ⟨jrt_5, List.forall_mem_cons.mpr ⟨jrt_6, List.forall_mem_cons.mpr ⟨jrt_7, List.forall_mem_cons.mpr ⟨jrt_8, List.forall_mem_cons.mpr ⟨jrt_9, List.forall_mem_cons.mpr ⟨jrt_10, List.forall_mem_cons.mpr ⟨jrt_11, List.forall_mem_cons.mpr ⟨jrt_12, List.forall_mem_cons.mpr ⟨jrt_13, List.forall_mem_cons.mpr ⟨jrt_14, List.forall_mem_cons.mpr ⟨jrt_15, List.forall_mem_cons.mpr ⟨jrt_16, List.forall_mem_cons.mpr ⟨jrt_17, List.forall_mem_cons.mpr ⟨jrt_18, List.forall_mem_cons.mpr ⟨jrt_19, List.forall_mem_cons.mpr ⟨jrt_20, List.forall_mem_cons.mpr ⟨jrt_21, List.forall_mem_cons.mpr ⟨jrt_22, List.forall_mem_cons.mpr ⟨jrt_23, List.forall_mem_cons.mpr ⟨jrt_24, List.forall_mem_cons.mpr ⟨jrt_25, List.forall_mem_cons.mpr ⟨jrt_26, List.forall_mem_cons.mpr ⟨jrt_27, List.forall_mem_cons.mpr ⟨jrt_28, List.forall_mem_cons.mpr ⟨jrt_29, List.forall_mem_cons.mpr ⟨jrt_30, List.forall_mem_cons.mpr ⟨jrt_31, List.forall_mem_cons.mpr ⟨jrt_32, List.forall_mem_cons.mpr ⟨jrt_33, List.forall_mem_cons.mpr ⟨jrt_34, List.forall_mem_cons.mpr ⟨jrt_35, List.forall_mem_cons.mpr ⟨jrt_36, List.forall_mem_cons.mpr ⟨jrt_37, List.forall_mem_cons.mpr ⟨jrt_38, List.forall_mem_cons.mpr ⟨jrt_39, List.forall_mem_cons.mpr ⟨jrt_40, List.forall_mem_cons.mpr ⟨jrt_41, List.forall_mem_cons.mpr ⟨jrt_42, List.forall_mem_cons.mpr ⟨jrt_43, List.forall_mem_cons.mpr ⟨jrt_44, List.forall_mem_cons.mpr ⟨jrt_45, List.forall_mem_cons.mpr ⟨jrt_46, List.forall_mem_cons.mpr ⟨jrt_47, List.forall_mem_cons.mpr ⟨jrt_48, List.forall_mem_cons.mpr ⟨jrt_49, List.forall_mem_cons.mpr ⟨jrt_50, List.forall_mem_cons.mpr ⟨jrt_51, List.forall_mem_cons.mpr ⟨jrt_52, List.forall_mem_cons.mpr ⟨jrt_53, List.forall_mem_cons.mpr ⟨jrt_54, List.forall_mem_cons.mpr ⟨jrt_55, List.forall_mem_cons.mpr ⟨jrt_56, List.forall_mem_cons.mpr ⟨jrt_57, List.forall_mem_cons.mpr ⟨jrt_58, List.forall_mem_cons.mpr ⟨jrt_59, List.forall_mem_cons.mpr ⟨jrt_60, List.forall_mem_cons.mpr ⟨jrt_61, List.forall_mem_cons.mpr ⟨jrt_62, List.forall_mem_cons.mpr ⟨jrt_63, List.forall_mem_cons.mpr ⟨jrt_64, List.forall_mem_cons.mpr ⟨jrt_65, List.forall_mem_cons.mpr ⟨jrt_66, List.forall_mem_cons.mpr ⟨jrt_67, List.forall_mem_cons.mpr ⟨jrt_68, List.forall_mem_cons.mpr ⟨jrt_69, List.forall_mem_cons.mpr ⟨jrt_70, List.forall_mem_cons.mpr ⟨jrt_71, List.forall_mem_cons.mpr ⟨jrt_72, List.forall_mem_cons.mpr ⟨jrt_73, List.forall_mem_cons.mpr ⟨jrt_74, List.forall_mem_cons.mpr ⟨jrt_75, List.forall_mem_cons.mpr ⟨jrt_76, List.forall_mem_cons.mpr ⟨jrt_77, List.forall_mem_cons.mpr ⟨jrt_78, List.forall_mem_cons.mpr ⟨jrt_79, List.forall_mem_cons.mpr ⟨jrt_80, List.forall_mem_cons.mpr ⟨jrt_81, List.forall_mem_cons.mpr ⟨jrt_82, List.forall_mem_cons.mpr ⟨jrt_83, List.forall_mem_cons.mpr ⟨jrt_84, List.forall_mem_cons.mpr ⟨jrt_85, List.forall_mem_cons.mpr ⟨jrt_86, List.forall_mem_cons.mpr ⟨jrt_87, List.forall_mem_cons.mpr ⟨jrt_88, List.forall_mem_cons.mpr ⟨jrt_89, List.forall_mem_cons.mpr ⟨jrt_90, List.forall_mem_cons.mpr ⟨jrt_91, List.forall_mem_cons.mpr ⟨jrt_92, List.forall_mem_cons.mpr ⟨jrt_93, List.forall_mem_cons.mpr ⟨jrt_94, List.forall_mem_cons.mpr ⟨jrt_95, List.forall_mem_cons.mpr ⟨jrt_96, List.forall_mem_cons.mpr ⟨jrt_97, List.forall_mem_cons.mpr ⟨jrt_98, List.forall_mem_cons.mpr ⟨jrt_99, List.forall_mem_cons.mpr ⟨jrt_100, List.forall_mem_cons.mpr ⟨jrt_101, List.forall_mem_cons.mpr ⟨jrt_102, List.forall_mem_cons.mpr ⟨jrt_103, List.forall_mem_cons.mpr ⟨jrt_104, List.forall_mem_cons.mpr ⟨jrt_105, List.forall_mem_cons.mpr ⟨jrt_106, List.forall_mem_cons.mpr ⟨jrt_107, List.forall_mem_cons.mpr ⟨jrt_108, List.forall_mem_cons.mpr ⟨jrt_109, List.forall_mem_cons.mpr ⟨jrt_110, List.forall_mem_cons.mpr ⟨jrt_111, List.forall_mem_cons.mpr ⟨jrt_112, List.forall_mem_cons.mpr ⟨jrt_113, List.forall_mem_cons.mpr ⟨jrt_114, List.forall_mem_cons.mpr ⟨jrt_115, List.forall_mem_cons.mpr ⟨jrt_116, List.forall_mem_cons.mpr ⟨jrt_117, List.forall_mem_cons.mpr ⟨jrt_118, List.forall_mem_cons.mpr ⟨jrt_119, List.forall_mem_cons.mpr ⟨jrt_120, List.forall_mem_cons.mpr ⟨jrt_121, List.forall_mem_cons.mpr ⟨jrt_122, List.forall_mem_cons.mpr ⟨jrt_123, List.forall_mem_cons.mpr ⟨jrt_124, List.forall_mem_cons.mpr ⟨jrt_125, List.forall_mem_cons.mpr ⟨jrt_126, List.forall_mem_cons.mpr ⟨jrt_127, List.forall_mem_cons.mpr ⟨jrt_128, List.forall_mem_cons.mpr ⟨jrt_129, List.forall_mem_cons.mpr ⟨jrt_130, List.forall_mem_cons.mpr ⟨jrt_131, List.forall_mem_cons.mpr ⟨jrt_132, List.forall_mem_cons.mpr ⟨jrt_133, List.forall_mem_cons.mpr ⟨jrt_134, List.forall_mem_cons.mpr ⟨jrt_135, List.forall_mem_cons.mpr ⟨jrt_136, List.forall_mem_cons.mpr ⟨jrt_137, List.forall_mem_cons.mpr ⟨jrt_138, List.forall_mem_cons.mpr ⟨jrt_139, List.forall_mem_cons.mpr ⟨jrt_140, List.forall_mem_cons.mpr ⟨jrt_141, List.forall_mem_cons.mpr ⟨jrt_142, List.forall_mem_cons.mpr ⟨jrt_143, List.forall_mem_cons.mpr ⟨jrt_144, List.forall_mem_cons.mpr ⟨jrt_145, List.forall_mem_cons.mpr ⟨jrt_146, List.forall_mem_cons.mpr ⟨jrt_147, List.forall_mem_cons.mpr ⟨jrt_148, List.forall_mem_cons.mpr ⟨jrt_149, List.forall_mem_cons.mpr ⟨jrt_150, List.forall_mem_cons.mpr ⟨jrt_151, List.forall_mem_cons.mpr ⟨jrt_152, List.forall_mem_cons.mpr ⟨jrt_153, List.forall_mem_cons.mpr ⟨jrt_154, List.forall_mem_cons.mpr ⟨jrt_155, List.forall_mem_cons.mpr ⟨jrt_156, List.forall_mem_cons.mpr ⟨jrt_157, List.forall_mem_cons.mpr ⟨jrt_158, List.forall_mem_cons.mpr ⟨jrt_159, List.forall_mem_cons.mpr ⟨jrt_160, List.forall_mem_cons.mpr ⟨jrt_161, List.forall_mem_cons.mpr ⟨jrt_162, List.forall_mem_cons.mpr ⟨jrt_163, List.forall_mem_cons.mpr ⟨jrt_164, List.forall_mem_cons.mpr ⟨jrt_165, List.forall_mem_cons.mpr ⟨jrt_166, List.forall_mem_cons.mpr ⟨jrt_167, List.forall_mem_cons.mpr ⟨jrt_168, List.forall_mem_cons.mpr ⟨jrt_169, List.forall_mem_cons.mpr ⟨jrt_170, List.forall_mem_cons.mpr ⟨jrt_171, List.forall_mem_cons.mpr ⟨jrt_172, List.forall_mem_cons.mpr ⟨jrt_173, List.forall_mem_cons.mpr ⟨jrt_174, List.forall_mem_cons.mpr ⟨jrt_175, List.forall_mem_cons.mpr ⟨jrt_176, List.forall_mem_cons.mpr ⟨jrt_177, List.forall_mem_cons.mpr ⟨jrt_178, List.forall_mem_cons.mpr ⟨jrt_179, List.forall_mem_cons.mpr ⟨jrt_180, List.forall_mem_cons.mpr ⟨jrt_181, List.forall_mem_cons.mpr ⟨jrt_182, List.forall_mem_cons.mpr ⟨jrt_183, List.forall_mem_cons.mpr ⟨jrt_184, List.forall_mem_cons.mpr ⟨jrt_185, List.forall_mem_cons.mpr ⟨jrt_186, List.forall_mem_cons.mpr ⟨jrt_187, List.forall_mem_cons.mpr ⟨jrt_188, List.forall_mem_cons.mpr ⟨jrt_189, List.forall_mem_cons.mpr ⟨jrt_190, List.forall_mem_cons.mpr ⟨jrt_191, List.forall_mem_cons.mpr ⟨jrt_192, List.forall_mem_cons.mpr ⟨jrt_193, List.forall_mem_cons.mpr ⟨jrt_194, List.forall_mem_cons.mpr ⟨jrt_195, List.forall_mem_cons.mpr ⟨jrt_196, List.forall_mem_cons.mpr ⟨jrt_197, List.forall_mem_cons.mpr ⟨jrt_198, List.forall_mem_cons.mpr ⟨jrt_199, List.forall_mem_cons.mpr ⟨jrt_200, List.forall_mem_cons.mpr ⟨jrt_201, List.forall_mem_cons.mpr ⟨jrt_202, List.forall_mem_cons.mpr ⟨jrt_203, List.forall_mem_cons.mpr ⟨jrt_204, List.forall_mem_cons.mpr ⟨jrt_205, List.forall_mem_cons.mpr ⟨jrt_206, List.forall_mem_cons.mpr ⟨jrt_207, List.forall_mem_cons.mpr ⟨jrt_208, List.forall_mem_cons.mpr ⟨jrt_209, List.forall_mem_cons.mpr ⟨jrt_210, List.forall_mem_cons.mpr ⟨jrt_211, List.forall_mem_cons.mpr ⟨jrt_212, List.forall_mem_cons.mpr ⟨jrt_213, List.forall_mem_cons.mpr ⟨jrt_214, List.forall_mem_cons.mpr ⟨jrt_215, List.forall_mem_cons.mpr ⟨jrt_216, List.forall_mem_cons.mpr ⟨jrt_217, List.forall_mem_cons.mpr ⟨jrt_218, List.forall_mem_cons.mpr ⟨jrt_219, List.forall_mem_cons.mpr ⟨jrt_220, List.forall_mem_cons.mpr ⟨jrt_221, List.forall_mem_cons.mpr ⟨jrt_222, List.forall_mem_cons.mpr ⟨jrt_223, List.forall_mem_cons.mpr ⟨jrt_224, List.forall_mem_cons.mpr ⟨jrt_225, fun _ h => absurd h List.not_mem_nil⟩⟩⟩⟩⟩⟩⟩⟩⟩⟩⟩⟩⟩⟩⟩⟩⟩⟩⟩⟩⟩⟩⟩⟩⟩⟩⟩⟩⟩⟩⟩⟩⟩⟩⟩⟩⟩⟩⟩⟩⟩⟩⟩⟩⟩⟩⟩⟩⟩⟩⟩⟩⟩⟩⟩⟩⟩⟩⟩⟩⟩⟩⟩⟩⟩⟩⟩⟩⟩⟩⟩⟩⟩⟩⟩⟩⟩⟩⟩⟩⟩⟩⟩⟩⟩⟩⟩⟩⟩⟩⟩⟩⟩⟩⟩⟩⟩⟩⟩⟩⟩⟩⟩⟩⟩⟩⟩⟩⟩⟩⟩⟩⟩⟩⟩⟩⟩⟩⟩⟩⟩⟩⟩⟩⟩⟩⟩⟩⟩⟩⟩⟩⟩⟩⟩⟩⟩⟩⟩⟩⟩⟩⟩⟩⟩⟩⟩⟩⟩⟩⟩⟩⟩⟩⟩⟩⟩⟩⟩⟩⟩⟩⟩⟩⟩⟩⟩⟩⟩⟩⟩⟩⟩⟩⟩⟩⟩⟩⟩⟩⟩⟩⟩⟩⟩⟩⟩⟩⟩⟩⟩⟩⟩⟩⟩⟩⟩⟩⟩⟩⟩⟩⟩⟩⟩⟩⟩⟩⟩⟩⟩⟩⟩⟩⟩⟩⟩⟩⟩⟩⟩⟩⟩⟩⟩⟩
theorem j_rtat {i : Instr} (hd : j_code mi pc = some (i, n, t, sw)) : j_rtc (j_rt mi) (pc, (i, n, t, sw)) = true := by
  unfold j_code at hd
  split at hd
  · rename_i q hq
    have hm := j_nth_mem (show j_nth j_mt mi = some q from hq)
    have hl := j_lk_mem hd
    have h1 := List.all_eq_true.mp (j_rtall q hm) _ hl
    unfold j_rt
    rw [hq]
    exact h1
  · cases hd
theorem j_rt_ref (hd : j_code mi pc = some (.areturn, n, t, sw)) : ∃ ty, j_rt mi = some ty ∧ j_isR ty = true := by
  have h := j_rtat hd
  unfold j_rtc at h
  dsimp only at h
  split at h
  · rename_i ty hty
    exact ⟨ty, hty, h⟩
  · cases h
theorem j_rt_void (hd : j_code mi pc = some (.return_, n, t, sw)) : j_rt mi = none := of_decide_eq_true (show decide (j_rt mi = none) = true from j_rtat hd)
set_option maxHeartbeats 4000000 in
theorem j_act_call {x} (h : j_act mi pc L S σ = some (.inr (.inl x))) : ∃ (i : Instr) (n t : Nat) (sw : List (Int32 × Nat)) (k : Nat), j_code mi pc = some (i, n, t, sw) ∧ (i = .invokevirtual k ∨ i = .invokespecial k ∨ i = .invokestatic k) ∧ j_inv mi k n L S σ = some (.inr (.inl x)) := by
  unfold j_act at h
  split at h
  · cases h
  rename_i i n t sw hcode
  cases i
  case invokevirtual k => exact ⟨_, _, _, _, k, hcode, Or.inl rfl, h⟩
  case invokespecial k => exact ⟨_, _, _, _, k, hcode, Or.inr (Or.inl rfl), h⟩
  case invokestatic k => exact ⟨_, _, _, _, k, hcode, Or.inr (Or.inr rfl), h⟩
  all_goals (exfalso; try simp only [j_ldI, j_ldJ, j_ldR, j_inc, j_popI, j_popJ, j_popR, j_popA, j_pop1, j_jp, j_end, j_putf] at h)
  all_goals (repeat' (first | (cases h; done) | contradiction | split at h))
set_option maxHeartbeats 4000000 in
theorem j_act_end {x} (h : j_act mi pc L S σ = some (.inr (.inr x))) : ∃ (i : Instr) (n t : Nat) (sw : List (Int32 × Nat)), j_code mi pc = some (i, n, t, sw) ∧ ((i = .ireturn ∧ ∃ v, S = [.int v] ∧ x = (some (.int v), σ) ∧ ∃ ty, j_rt mi = some ty ∧ narrow ty (.int v) = .int v) ∨ (i = .areturn ∧ ∃ v, S = [v] ∧ x = (some v, σ) ∧ (v = .null ∨ ∃ a, v = .ref a)) ∨ (i = .return_ ∧ S = [] ∧ x = (none, σ))) := by
  unfold j_act at h
  split at h
  · cases h
  rename_i i n t sw hcode
  refine ⟨i, n, t, sw, hcode, ?_⟩
  cases i
  case ireturn =>
    refine Or.inl ⟨rfl, ?_⟩
    dsimp only at h
    unfold j_end at h
    split at h
    · rename_i v
      refine ⟨v, rfl, ?_⟩
      split at h
      · cases h; exact ⟨rfl, _, by assumption, rfl⟩
      · split at h
        · rename_i hv
          cases h
          refine ⟨rfl, _, by assumption, ?_⟩
          rcases hv with rfl | rfl
          · exact (show narrow .boolean (.int (nI 0)) = .int (nI 0) by decide)
          · exact (show narrow .boolean (.int (nI 1)) = .int (nI 1) by decide)
        · cases h
      · cases h
    · cases h
  case areturn =>
    refine Or.inr (Or.inl ⟨rfl, ?_⟩)
    dsimp only at h
    unfold j_end at h
    split at h
    · cases h; exact ⟨_, rfl, rfl, Or.inr ⟨_, rfl⟩⟩
    · cases h; exact ⟨_, rfl, rfl, Or.inl rfl⟩
    · cases h
  case return_ =>
    refine Or.inr (Or.inr ⟨rfl, ?_⟩)
    dsimp only at h
    unfold j_end at h
    split at h
    · cases h; exact ⟨rfl, rfl⟩
    · cases h
  case invokevirtual k =>
    exfalso
    simp only [j_inv, j_popI, j_popR, j_jp] at h
    split at h <;> (try (repeat' (first | (cases h; done) | contradiction | split at h)))
    all_goals (obtain ⟨as, S1, -, -, h⟩ := j_pops_inv h; unfold j_cal at h; repeat' (first | (cases h; done) | contradiction | split at h))
  case invokespecial k =>
    exfalso
    simp only [j_inv, j_popI, j_popR, j_jp] at h
    split at h <;> (try (repeat' (first | (cases h; done) | contradiction | split at h)))
    all_goals (obtain ⟨as, S1, -, -, h⟩ := j_pops_inv h; unfold j_cal at h; repeat' (first | (cases h; done) | contradiction | split at h))
  case invokestatic k =>
    exfalso
    simp only [j_inv, j_popI, j_popR, j_jp] at h
    split at h <;> (try (repeat' (first | (cases h; done) | contradiction | split at h)))
    all_goals (obtain ⟨as, S1, -, -, h⟩ := j_pops_inv h; unfold j_cal at h; repeat' (first | (cases h; done) | contradiction | split at h))
  all_goals (exfalso; try simp only [j_ldI, j_ldJ, j_ldR, j_inc, j_popI, j_popJ, j_popR, j_popA, j_pop1, j_jp, j_end, j_putf] at h)
  all_goals (repeat' (first | (cases h; done) | contradiction | split at h))
/-- what a call of J is -/
theorem j_inv_call {k n c n' : Nat} {as : List Value} {σ0 : j_St} (h : j_inv mi k n L S σ = some (.inr (.inl (c, as, σ0, n', L', S')))) : ∃ ns, j_cr mi k = some (c, ns) ∧ c ≠ 1001 ∧ c ≠ 1002 ∧ c ≠ 1003 ∧ c ≠ 1004 ∧ c ≠ 1005 ∧ σ0 = σ ∧ n' = n ∧ L' = L ∧ S = as.reverse ++ S' ∧ as.length = j_np c + (if j_kind c = 2 then 0 else 1) ∧ j_fit (j_ml c) as = true ∧ j_sm S' = true ∧
    (j_kind c = 0 → ∃ o as', as = .ref o :: as' ∧ j_cl σ o = j_own c) ∧ (j_kind c = 1 → ∃ o as', as = .ref o :: as') := by
  unfold j_inv at h
  split at h
  · cases h
  · exfalso; simp only [j_popR, j_jp] at h; repeat' (first | (cases h; done) | contradiction | split at h)
  · exfalso; simp only [j_popI, j_popR, j_jp] at h; repeat' (first | (cases h; done) | contradiction | split at h)
  · exfalso; simp only [j_popI, j_popR, j_jp] at h; repeat' (first | (cases h; done) | contradiction | split at h)
  · exfalso; simp only [j_popI, j_jp] at h; repeat' (first | (cases h; done) | contradiction | split at h)
  · exfalso; simp only [j_popI, j_jp] at h; repeat' (first | (cases h; done) | contradiction | split at h)
  · rename_i c0 ns g1 g2 g3 g4 g5 hf
    obtain ⟨as0, S1, hS, hlen, h⟩ := j_pops_inv h
    rw [List.append_nil] at h
    split at h
    · rename_i hk
      split at h
      · rename_i o as1
        obtain ⟨hc, h⟩ := j_if_inv h
        obtain ⟨⟨rfl, rfl, rfl, rfl, rfl, rfl⟩, hf1, hf2⟩ := j_cal_inv h
        exact ⟨ns, hf, g1, g2, g3, g4, g5, rfl, rfl, rfl, hS, hlen, hf1, hf2, fun _ => ⟨_, _, rfl, hc⟩, fun q => by omega⟩
      · cases h
    · rename_i hk
      split at h
      · rename_i o as1
        obtain ⟨⟨rfl, rfl, rfl, rfl, rfl, rfl⟩, hf1, hf2⟩ := j_cal_inv h
        exact ⟨ns, hf, g1, g2, g3, g4, g5, rfl, rfl, rfl, hS, hlen, hf1, hf2, fun q => by omega, fun _ => ⟨_, _, rfl⟩⟩
      · cases h
    · rename_i hk0 hk1
      obtain ⟨⟨rfl, rfl, rfl, rfl, rfl, rfl⟩, hf1, hf2⟩ := j_cal_inv h
      exact ⟨ns, hf, g1, g2, g3, g4, g5, rfl, rfl, rfl, hS, hlen, hf1, hf2, fun q => (hk0 q).elim, fun q => (hk1 q).elim⟩
theorem j_nth_lt {α : Type} : ∀ {l : List α} {n : Nat} {a : α}, j_nth l n = some a → n < l.length
  | [], _, _, h => by simp [j_nth] at h
  | b :: l, 0, a, h => Nat.succ_pos _
  | b :: l, n + 1, a, h => Nat.succ_lt_succ (j_nth_lt (l := l) (n := n) h)
theorem j_m_lt {c : Nat} {q : j_MT} (h : j_m c = some q) : c < 1000 := Nat.lt_of_lt_of_le (j_nth_lt (show j_nth j_mt c = some q from h)) (by decide +kernel)
theorem j_cr_m {k c ns : Nat} (h : j_cr mi k = some (c, ns)) (h1 : c ≠ 1001) (h2 : c ≠ 1002) (h3 : c ≠ 1003) (h4 : c ≠ 1004) (h5 : c ≠ 1005) : ∃ q, j_m c = some q := by
  have hcok := j_cok _ (j_lk2_mem h)
  unfold j_cP at hcok
  dsimp only at hcok
  split at hcok
  · exact absurd rfl h1
  · exact absurd rfl h2
  · exact absurd rfl h3
  · exact absurd rfl h4
  · exact absurd rfl h5
  · obtain ⟨m, hm, -⟩ := hcok
    exact ⟨m, hm⟩
/-- no call reaches the law's own method -/
def j_nolaw : List ((Nat × Nat) × (Nat × Nat)) → Bool := fun l => l.all fun q => decide (q.2.1 ≠ j_law)
theorem j_nolaw_ok : j_nolaw j_cl_ = true := by decide +kernel
theorem j_law_eq {c : Nat} (h : j_m c = some jm_225) : c = j_law := by
  have h2 : ∀ i, i < j_mt.length → (j_nth j_mt i).map (fun m => m.1) = some 9 → i = j_law := by decide +kernel
  exact h2 c (j_nth_lt (show j_nth j_mt c = some jm_225 from h)) (by rw [show j_nth j_mt c = some jm_225 from h]; rfl)
/-- J's runs are the machine's -/
theorem j_adq (hNM : j_NM l G) : ∀ (f d mi pc : Nat) (L : j_L) (S : List Value) (σ : j_St) (r : Option Value) (τ : j_St), j_ex j_act j_ini f d mi pc L S σ = some (r, τ) → j_V l G (d + 1) mi pc L S σ r τ ∧ j_n σ ≤ j_n τ ∧ j_sl σ ≤ j_sl τ := by
  intro f
  induction f with
  | zero => intro d mi pc L S σ r τ h; cases h
  | succ f ih =>
    intro d mi pc L S σ r τ h
    rw [j_ex] at h
    cases ha : j_act mi pc L S σ with
    | none => rw [ha] at h; cases h
    | some a =>
      rw [ha] at h
      rcases a with ⟨pc', L', S', σ'⟩ | ⟨c, as, σ', n', L', S'⟩ | ⟨r', σ'⟩
      · have h2 : j_ex j_act j_ini f d mi pc' L' S' σ' = some (r, τ) := h
        obtain ⟨v1, v2, v3⟩ := ih _ _ _ _ _ _ _ _ h2
        obtain ⟨w1, w2, w3⟩ := j_jump hNM ha ⟨v2, v3⟩ v1
        exact ⟨w1, Nat.le_trans w2 v2, Nat.le_trans w3 v3⟩
      · obtain ⟨i, n, t, sw, k, hcode, hi, hinv⟩ := j_act_call ha
        obtain ⟨ns, hf, c1, c2, c3, c4, c5, rfl, rfl, rfl, rfl, hlen, hfit, hsm, hk0, hk1⟩ := j_inv_call hinv
        obtain ⟨q, hq⟩ := j_cr_m hf c1 c2 c3 c4 c5
        have hc := j_m_lt hq
        have hPq : j_mP q := by
          rcases j_mok q (j_nth_mem (show j_nth j_mt c = some q from hq)) with rfl | hP
          · have hl := List.all_eq_true.mp j_nolaw_ok _ (j_lk2_mem hf)
            rw [decide_eq_true_eq] at hl
            exact absurd (j_law_eq hq) hl
          · exact hP
        have eow : j_own c = q.1 := by unfold j_own; rw [hq]
        have ekd : j_kind c = q.2.1 := by unfold j_kind; rw [hq]
        have enp : j_np c = q.2.2.1 := by unfold j_np; rw [hq]
        rw [ekd, enp] at hlen
        rw [ekd, eow] at hk0
        rw [ekd] at hk1
        cases d with
        | zero => cases h
        | succ d =>
          have h2 : (j_ex j_act j_ini f d c 0 (j_ini c as) [] σ').bind (fun r => j_ex j_act j_ini f (d + 1) mi n' L' (j_ps r.1 S') r.2) = some (r, τ) := h
          cases h3 : j_ex j_act j_ini f d c 0 (j_ini c as) [] σ' with
          | none => rw [h3] at h2; cases h2
          | some x =>
            obtain ⟨r1, σ1⟩ := x
            rw [h3] at h2
            obtain ⟨u1, u2, u3⟩ := ih _ _ _ _ _ _ _ _ h3
            obtain ⟨v1, v2, v3⟩ := ih _ _ _ _ _ _ _ _ (show j_ex j_act j_ini f (d + 1) mi n' L' (j_ps r1 S') σ1 = some (r, τ) from h2)
            refine ⟨?_, Nat.le_trans u2 v2, Nat.le_trans u3 v3⟩
            obtain ⟨q2, hq2, hdc, hlt, htok, hlok⟩ := j_dec hcode
            rcases hi with rfl | rfl | rfl
            · obtain ⟨q', hq', hkd, -, hown⟩ := j_opgood (a := 0) hcode rfl (by decide) hc hf
              cases hq.symm.trans hq'
              obtain ⟨o, as', rfl, hcl⟩ := hk0 hkd
              rw [hkd, if_neg (by decide)] at hlen
              rw [List.reverse_cons, List.append_assoc]
              exact j_r_callV (as := as') hcode (j_ln (k := 2) hlok rfl) hf hc hq hkd hPq (by simpa using hlen) ⟨hcl, hown rfl⟩ hsm hfit u1 u2 u3 v2 v3 v1
            · obtain ⟨q', hq', hkd, hret, -⟩ := j_opgood (a := 1) hcode rfl (by decide) hc hf
              cases hq.symm.trans hq'
              obtain ⟨o, as', rfl⟩ := hk1 hkd
              rw [hkd, if_neg (by decide)] at hlen
              rw [List.reverse_cons, List.append_assoc]
              exact j_r_callI (as := as') hcode (j_ln (k := 2) hlok rfl) hf hc hq hkd (hret rfl) hPq (by simpa using hlen) hsm hfit u1 u2 u3 v2 v3 v1
            · obtain ⟨q', hq', hkd, -⟩ := j_opgood (a := 2) hcode rfl (by decide) hc hf
              cases hq.symm.trans hq'
              rw [hkd, if_pos rfl, Nat.add_zero] at hlen
              exact j_r_callS hcode (j_ln (k := 2) hlok rfl) hf hc hq hkd hPq hlen hsm hfit u1 u2 u3 v2 v3 v1
      · obtain ⟨i, n, t, sw, hcode, hx⟩ := j_act_end ha
        obtain ⟨q2, hq2, hdc, hlt, htok, hlok⟩ := j_dec hcode
        have h2 : (r', σ') = (r, τ) := Option.some.inj h
        rcases hx with ⟨rfl, v, rfl, hx, hty⟩ | ⟨rfl, v, rfl, hx, hv⟩ | ⟨rfl, rfl, hx⟩
        · cases hx.symm.trans h2
          exact ⟨j_e_int hcode (j_ln (k := 0) hlok rfl) hty, Nat.le_refl _, Nat.le_refl _⟩
        · cases hx.symm.trans h2
          exact ⟨j_e_ref hcode (j_ln (k := 0) hlok rfl) (j_rt_ref hcode) hv, Nat.le_refl _, Nat.le_refl _⟩
        · cases hx.symm.trans h2
          exact ⟨j_e_void hcode (j_ln (k := 0) hlok rfl) (j_rt_void hcode), Nat.le_refl _, Nat.le_refl _⟩
