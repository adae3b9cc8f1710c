theorem jel_0 : ((jl_225.drop 0).take 60).all (j_eok code 4) = true := by decide +kernel
theorem jel_1 : ((jl_225.drop 60).take 60).all (j_eok code 4) = true := by decide +kernel
theorem jel_2 : ((jl_225.drop 120).take 60).all (j_eok code 4) = true := by decide +kernel
theorem jel_3 : ((jl_225.drop 180).take 60).all (j_eok code 4) = true := by decide +kernel
theorem jel_4 : ((jl_225.drop 240).take 60).all (j_eok code 4) = true := by decide +kernel
theorem jel_5 : ((jl_225.drop 300).take 60).all (j_eok code 4) = true := by decide +kernel
theorem jel_6 : ((jl_225.drop 360).take 60).all (j_eok code 4) = true := by decide +kernel
theorem jel_7 : ((jl_225.drop 420).take 60).all (j_eok code 4) = true := by decide +kernel
theorem jel_8 : ((jl_225.drop 480).take 60).all (j_eok code 4) = true := by decide +kernel
theorem jel_9 : ((jl_225.drop 540).take 60).all (j_eok code 4) = true := by decide +kernel
theorem jel_10 : ((jl_225.drop 600).take 60).all (j_eok code 4) = true := by decide +kernel
theorem jel_11 : ((jl_225.drop 660).take 60).all (j_eok code 4) = true := by decide +kernel
theorem jel_12 : ((jl_225.drop 720).take 60).all (j_eok code 4) = true := by decide +kernel
theorem jel_13 : ((jl_225.drop 780).take 60).all (j_eok code 4) = true := by decide +kernel
theorem jel_14 : ((jl_225.drop 840).take 60).all (j_eok code 4) = true := by decide +kernel
theorem jel_15 : ((jl_225.drop 900).take 60).all (j_eok code 4) = true := by decide +kernel
theorem jel_16 : ((jl_225.drop 960).take 60).all (j_eok code 4) = true := by decide +kernel
theorem j_chunk {α : Type} {p : α → Bool} {l : List α} (a b : Nat) (hb : a + 60 = b) (h1 : ((l.drop a).take 60).all p = true) (h2 : (l.drop b).all p = true) : (l.drop a).all p = true := by
  rw [← List.take_append_drop 60 (l.drop a), List.all_append, h1, List.drop_drop, hb, h2]
  rfl
theorem jek_225 : jl_225.all (j_eok code 4) = true := (j_chunk 0 60 rfl jel_0 (j_chunk 60 120 rfl jel_1 (j_chunk 120 180 rfl jel_2 (j_chunk 180 240 rfl jel_3 (j_chunk 240 300 rfl jel_4 (j_chunk 300 360 rfl jel_5 (j_chunk 360 420 rfl jel_6 (j_chunk 420 480 rfl jel_7 (j_chunk 480 540 rfl jel_8 (j_chunk 540 600 rfl jel_9 (j_chunk 600 660 rfl jel_10 (j_chunk 660 720 rfl jel_11 (j_chunk 720 780 rfl jel_12 (j_chunk 780 840 rfl jel_13 (j_chunk 840 900 rfl jel_14 (j_chunk 900 960 rfl jel_15 (j_chunk 960 1020 rfl jel_16 (by decide +kernel))))))))))))))))))
set_option maxRecDepth 100000 in
theorem j_eall : ∀ m ∈ j_mt, m.2.2.2.2.2.2.2.all (j_eok (j_b m) m.2.2.2.2.2.1) = true := List.forall_mem_cons.mpr ⟨jek_0, List.forall_mem_cons.mpr ⟨jek_1, List.forall_mem_cons.mpr ⟨jek_2, List.forall_mem_cons.mpr ⟨jek_3, List.forall_mem_cons.mpr ⟨jek_4, List.forall_mem_cons.mpr ⟨jek_5, List.forall_mem_cons.mpr ⟨jek_6, List.forall_mem_cons.mpr ⟨jek_7, List.forall_mem_cons.mpr ⟨jek_8, List.forall_mem_cons.mpr ⟨jek_9, List.forall_mem_cons.mpr ⟨jek_10, List.forall_mem_cons.mpr ⟨jek_11, List.forall_mem_cons.mpr ⟨jek_12, List.forall_mem_cons.mpr ⟨jek_13, List.forall_mem_cons.mpr ⟨jek_14, List.forall_mem_cons.mpr ⟨jek_15, List.forall_mem_cons.mpr ⟨jek_16, List.forall_mem_cons.mpr ⟨jek_17, List.forall_mem_cons.mpr ⟨jek_18, List.forall_mem_cons.mpr ⟨jek_19, List.forall_mem_cons.mpr ⟨jek_20, List.forall_mem_cons.mpr ⟨jek_21, List.forall_mem_cons.mpr ⟨jek_22, List.forall_mem_cons.mpr ⟨jek_23, List.forall_mem_cons.mpr ⟨jek_24, List.forall_mem_cons.mpr ⟨jek_25, List.forall_mem_cons.mpr ⟨jek_26, List.forall_mem_cons.mpr ⟨jek_27, List.forall_mem_cons.mpr ⟨jek_28, List.forall_mem_cons.mpr ⟨jek_29, List.forall_mem_cons.mpr ⟨jek_30, List.forall_mem_cons.mpr ⟨jek_31, List.forall_mem_cons.mpr ⟨jek_32, List.forall_mem_cons.mpr ⟨jek_33, List.forall_mem_cons.mpr ⟨jek_34, List.forall_mem_cons.mpr ⟨jek_35, List.forall_mem_cons.mpr ⟨jek_36, List.forall_mem_cons.mpr ⟨jek_37, List.forall_mem_cons.mpr ⟨jek_38, List.forall_mem_cons.mpr ⟨jek_39, List.forall_mem_cons.mpr ⟨jek_40, List.forall_mem_cons.mpr ⟨jek_41, List.forall_mem_cons.mpr ⟨jek_42, List.forall_mem_cons.mpr ⟨jek_43, List.forall_mem_cons.mpr ⟨jek_44, List.forall_mem_cons.mpr ⟨jek_45, List.forall_mem_cons.mpr ⟨jek_46, List.forall_mem_cons.mpr ⟨jek_47, List.forall_mem_cons.mpr ⟨jek_48, List.forall_mem_cons.mpr ⟨jek_49, List.forall_mem_cons.mpr ⟨jek_50, List.forall_mem_cons.mpr ⟨jek_51, List.forall_mem_cons.mpr ⟨jek_52, List.forall_mem_cons.mpr ⟨jek_53, List.forall_mem_cons.mpr ⟨jek_54, List.forall_mem_cons.mpr ⟨jek_55, List.forall_mem_cons.mpr ⟨jek_56, List.forall_mem_cons.mpr ⟨jek_57, List.forall_mem_cons.mpr ⟨jek_58, List.forall_mem_cons.mpr ⟨jek_59, List.forall_mem_cons.mpr ⟨jek_60, List.forall_mem_cons.mpr ⟨jek_61, List.forall_mem_cons.mpr ⟨jek_62, List.forall_mem_cons.mpr ⟨jek_63, List.forall_mem_cons.mpr ⟨jek_64, List.forall_mem_cons.mpr ⟨jek_65, List.forall_mem_cons.mpr ⟨jek_66, List.forall_mem_cons.mpr ⟨jek_67, List.forall_mem_cons.mpr ⟨jek_68, List.forall_mem_cons.mpr ⟨jek_69, List.forall_mem_cons.mpr ⟨jek_70, List.forall_mem_cons.mpr ⟨jek_71, List.forall_mem_cons.mpr ⟨jek_72, List.forall_mem_cons.mpr ⟨jek_73, List.forall_mem_cons.mpr ⟨jek_74, List.forall_mem_cons.mpr ⟨jek_75, List.forall_mem_cons.mpr ⟨jek_76, List.forall_mem_cons.mpr ⟨jek_77, List.forall_mem_cons.mpr ⟨jek_78, List.forall_mem_cons.mpr ⟨jek_79, List.forall_mem_cons.mpr ⟨jek_80, List.forall_mem_cons.mpr ⟨jek_81, List.forall_mem_cons.mpr ⟨jek_82, List.forall_mem_cons.mpr ⟨jek_83, List.forall_mem_cons.mpr ⟨jek_84, List.forall_mem_cons.mpr ⟨jek_85, List.forall_mem_cons.mpr ⟨jek_86, List.forall_mem_cons.mpr ⟨jek_87, List.forall_mem_cons.mpr ⟨jek_88, List.forall_mem_cons.mpr ⟨jek_89, List.forall_mem_cons.mpr ⟨jek_90, List.forall_mem_cons.mpr ⟨jek_91, List.forall_mem_cons.mpr ⟨jek_92, List.forall_mem_cons.mpr ⟨jek_93, List.forall_mem_cons.mpr ⟨jek_94, List.forall_mem_cons.mpr ⟨jek_95, List.forall_mem_cons.mpr ⟨jek_96, List.forall_mem_cons.mpr ⟨jek_97, List.forall_mem_cons.mpr ⟨jek_98, List.forall_mem_cons.mpr ⟨jek_99, List.forall_mem_cons.mpr ⟨jek_100, List.forall_mem_cons.mpr ⟨jek_101, List.forall_mem_cons.mpr ⟨jek_102, List.forall_mem_cons.mpr ⟨jek_103, List.forall_mem_cons.mpr ⟨jek_104, List.forall_mem_cons.mpr ⟨jek_105, List.forall_mem_cons.mpr ⟨jek_106, List.forall_mem_cons.mpr ⟨jek_107, List.forall_mem_cons.mpr ⟨jek_108, List.forall_mem_cons.mpr ⟨jek_109, List.forall_mem_cons.mpr ⟨jek_110, List.forall_mem_cons.mpr ⟨jek_111, List.forall_mem_cons.mpr ⟨jek_112, List.forall_mem_cons.mpr ⟨jek_113, List.forall_mem_cons.mpr ⟨jek_114, List.forall_mem_cons.mpr ⟨jek_115, List.forall_mem_cons.mpr ⟨jek_116, List.forall_mem_cons.mpr ⟨jek_117, List.forall_mem_cons.mpr ⟨jek_118, List.forall_mem_cons.mpr ⟨jek_119, List.forall_mem_cons.mpr ⟨jek_120, List.forall_mem_cons.mpr ⟨jek_121, List.forall_mem_cons.mpr ⟨jek_122, List.forall_mem_cons.mpr ⟨jek_123, List.forall_mem_cons.mpr ⟨jek_124, List.forall_mem_cons.mpr ⟨jek_125, List.forall_mem_cons.mpr ⟨jek_126, List.forall_mem_cons.mpr ⟨jek_127, List.forall_mem_cons.mpr ⟨jek_128, List.forall_mem_cons.mpr ⟨jek_129, List.forall_mem_cons.mpr ⟨jek_130, List.forall_mem_cons.mpr ⟨jek_131, List.forall_mem_cons.mpr ⟨jek_132, List.forall_mem_cons.mpr ⟨jek_133, List.forall_mem_cons.mpr ⟨jek_134, List.forall_mem_cons.mpr ⟨jek_135, List.forall_mem_cons.mpr ⟨jek_136, List.forall_mem_cons.mpr ⟨jek_137, List.forall_mem_cons.mpr ⟨jek_138, List.forall_mem_cons.mpr ⟨jek_139, List.forall_mem_cons.mpr ⟨jek_140, List.forall_mem_cons.mpr ⟨jek_141, List.forall_mem_cons.mpr ⟨jek_142, List.forall_mem_cons.mpr ⟨jek_143, List.forall_mem_cons.mpr ⟨jek_144, List.forall_mem_cons.mpr ⟨jek_145, List.forall_mem_cons.mpr ⟨jek_146, List.forall_mem_cons.mpr ⟨jek_147, List.forall_mem_cons.mpr ⟨jek_148, List.forall_mem_cons.mpr ⟨jek_149, List.forall_mem_cons.mpr ⟨jek_150, List.forall_mem_cons.mpr ⟨jek_151, List.forall_mem_cons.mpr ⟨jek_152, List.forall_mem_cons.mpr ⟨jek_153, List.forall_mem_cons.mpr ⟨jek_154, List.forall_mem_cons.mpr ⟨jek_155, List.forall_mem_cons.mpr ⟨jek_156, List.forall_mem_cons.mpr ⟨jek_157, List.forall_mem_cons.mpr ⟨jek_158, List.forall_mem_cons.mpr ⟨jek_159, List.forall_mem_cons.mpr ⟨jek_160, List.forall_mem_cons.mpr ⟨jek_161, List.forall_mem_cons.mpr ⟨jek_162, List.forall_mem_cons.mpr ⟨jek_163, List.forall_mem_cons.mpr ⟨jek_164, List.forall_mem_cons.mpr ⟨jek_165, List.forall_mem_cons.mpr ⟨jek_166, List.forall_mem_cons.mpr ⟨jek_167, List.forall_mem_cons.mpr ⟨jek_168, List.forall_mem_cons.mpr ⟨jek_169, List.forall_mem_cons.mpr ⟨jek_170, List.forall_mem_cons.mpr ⟨jek_171, List.forall_mem_cons.mpr ⟨jek_172, List.forall_mem_cons.mpr ⟨jek_173, List.forall_mem_cons.mpr ⟨jek_174, List.forall_mem_cons.mpr ⟨jek_175, List.forall_mem_cons.mpr ⟨jek_176, List.forall_mem_cons.mpr ⟨jek_177, List.forall_mem_cons.mpr ⟨jek_178, List.forall_mem_cons.mpr ⟨jek_179, List.forall_mem_cons.mpr ⟨jek_180, List.forall_mem_cons.mpr ⟨jek_181, List.forall_mem_cons.mpr ⟨jek_182, List.forall_mem_cons.mpr ⟨jek_183, List.forall_mem_cons.mpr ⟨jek_184, List.forall_mem_cons.mpr ⟨jek_185, List.forall_mem_cons.mpr ⟨jek_186, List.forall_mem_cons.mpr ⟨jek_187, List.forall_mem_cons.mpr ⟨jek_188, List.forall_mem_cons.mpr ⟨jek_189, List.forall_mem_cons.mpr ⟨jek_190, List.forall_mem_cons.mpr ⟨jek_191, List.forall_mem_cons.mpr ⟨jek_192, List.forall_mem_cons.mpr ⟨jek_193, List.forall_mem_cons.mpr ⟨jek_194, List.forall_mem_cons.mpr ⟨jek_195, List.forall_mem_cons.mpr ⟨jek_196, List.forall_mem_cons.mpr ⟨jek_197, List.forall_mem_cons.mpr ⟨jek_198, List.forall_mem_cons.mpr ⟨jek_199, List.forall_mem_cons.mpr ⟨jek_200, List.forall_mem_cons.mpr ⟨jek_201, List.forall_mem_cons.mpr ⟨jek_202, List.forall_mem_cons.mpr ⟨jek_203, List.forall_mem_cons.mpr ⟨jek_204, List.forall_mem_cons.mpr ⟨jek_205, List.forall_mem_cons.mpr ⟨jek_206, List.forall_mem_cons.mpr ⟨jek_207, List.forall_mem_cons.mpr ⟨jek_208, List.forall_mem_cons.mpr ⟨jek_209, List.forall_mem_cons.mpr ⟨jek_210, List.forall_mem_cons.mpr ⟨jek_211, List.forall_mem_cons.mpr ⟨jek_212, List.forall_mem_cons.mpr ⟨jek_213, List.forall_mem_cons.mpr ⟨jek_214, List.forall_mem_cons.mpr ⟨jek_215, List.forall_mem_cons.mpr ⟨jek_216, List.forall_mem_cons.mpr ⟨jek_217, List.forall_mem_cons.mpr ⟨jek_218, List.forall_mem_cons.mpr ⟨jek_219, List.forall_mem_cons.mpr ⟨jek_220, List.forall_mem_cons.mpr ⟨jek_221, List.forall_mem_cons.mpr ⟨jek_222, List.forall_mem_cons.mpr ⟨jek_223, List.forall_mem_cons.mpr ⟨jek_224, List.forall_mem_cons.mpr ⟨jek_225, fun _ h => absurd h List.not_mem_nil⟩⟩⟩⟩⟩⟩⟩⟩⟩⟩⟩⟩⟩⟩⟩⟩⟩⟩⟩⟩⟩⟩⟩⟩⟩⟩⟩⟩⟩⟩⟩⟩⟩⟩⟩⟩⟩⟩⟩⟩⟩⟩⟩⟩⟩⟩⟩⟩⟩⟩⟩⟩⟩⟩⟩⟩⟩⟩⟩⟩⟩⟩⟩⟩⟩⟩⟩⟩⟩⟩⟩⟩⟩⟩⟩⟩⟩⟩⟩⟩⟩⟩⟩⟩⟩⟩⟩⟩⟩⟩⟩⟩⟩⟩⟩⟩⟩⟩⟩⟩⟩⟩⟩⟩⟩⟩⟩⟩⟩⟩⟩⟩⟩⟩⟩⟩⟩⟩⟩⟩⟩⟩⟩⟩⟩⟩⟩⟩⟩⟩⟩⟩⟩⟩⟩⟩⟩⟩⟩⟩⟩⟩⟩⟩⟩⟩⟩⟩⟩⟩⟩⟩⟩⟩⟩⟩⟩⟩⟩⟩⟩⟩⟩⟩⟩⟩⟩⟩⟩⟩⟩⟩⟩⟩⟩⟩⟩⟩⟩⟩⟩⟩⟩⟩⟩⟩⟩⟩⟩⟩⟩⟩⟩⟩⟩⟩⟩⟩⟩⟩⟩⟩⟩⟩⟩⟩⟩⟩⟩⟩⟩⟩⟩⟩⟩⟩⟩⟩⟩⟩⟩⟩⟩⟩⟩⟩
/-- the length of an instruction -/
def j_il : Instr → Nat
  | .iload _ | .aload _ | .lload _ | .istore _ | .astore _ | .bipush _ | .ldc _ | .newarray _ => 2
  | .sipush _ | .iinc _ _ | .ldc_w _ | .ldc2_w _ | .goto _ | .ifCond _ _ | .if_icmp _ _ | .ifnull _ | .ifnonnull _ | .getfield _ | .putfield _ | .getstatic _ | .new _ | .anewarray _ | .invokevirtual _ | .invokespecial _ | .invokestatic _ => 3
  | .lookupswitch _ _ | .tableswitch _ _ _ _ => 0
  | _ => 1
def j_lok (q : Nat × j_CE) : Bool := decide (j_il q.2.1 = 0) || decide (q.2.2.1 = q.1 + j_il q.2.1)
theorem jll_0 : jl_0.all j_lok = true := by decide +kernel
theorem jll_1 : jl_1.all j_lok = true := by decide +kernel
theorem jll_2 : jl_2.all j_lok = true := by decide +kernel
theorem jll_3 : jl_3.all j_lok = true := by decide +kernel
theorem jll_4 : jl_4.all j_lok = true := by decide +kernel
theorem jll_5 : jl_5.all j_lok = true := by decide +kernel
theorem jll_6 : jl_6.all j_lok = true := by decide +kernel
theorem jll_7 : jl_7.all j_lok = true := by decide +kernel
theorem jll_8 : jl_8.all j_lok = true := by decide +kernel
theorem jll_9 : jl_9.all j_lok = true := by decide +kernel
theorem jll_10 : jl_10.all j_lok = true := by decide +kernel
theorem jll_11 : jl_11.all j_lok = true := by decide +kernel
theorem jll_12 : jl_12.all j_lok = true := by decide +kernel
theorem jll_13 : jl_13.all j_lok = true := by decide +kernel
theorem jll_14 : jl_14.all j_lok = true := by decide +kernel
theorem jll_15 : jl_15.all j_lok = true := by decide +kernel
theorem jll_16 : jl_16.all j_lok = true := by decide +kernel
theorem jll_17 : jl_17.all j_lok = true := by decide +kernel
theorem jll_18 : jl_18.all j_lok = true := by decide +kernel
theorem jll_19 : jl_19.all j_lok = true := by decide +kernel
theorem jll_20 : jl_20.all j_lok = true := by decide +kernel
theorem jll_21 : jl_21.all j_lok = true := by decide +kernel
theorem jll_22 : jl_22.all j_lok = true := by decide +kernel
theorem jll_23 : jl_23.all j_lok = true := by decide +kernel
theorem jll_24 : jl_24.all j_lok = true := by decide +kernel
theorem jll_25 : jl_25.all j_lok = true := by decide +kernel
theorem jll_26 : jl_26.all j_lok = true := by decide +kernel
theorem jll_27 : jl_27.all j_lok = true := by decide +kernel
theorem jll_28 : jl_28.all j_lok = true := by decide +kernel
theorem jll_29 : jl_29.all j_lok = true := by decide +kernel
theorem jll_30 : jl_30.all j_lok = true := by decide +kernel
theorem jll_31 : jl_31.all j_lok = true := by decide +kernel
theorem jll_32 : jl_32.all j_lok = true := by decide +kernel
theorem jll_33 : jl_33.all j_lok = true := by decide +kernel
theorem jll_34 : jl_34.all j_lok = true := by decide +kernel
theorem jll_35 : jl_35.all j_lok = true := by decide +kernel
theorem jll_36 : jl_36.all j_lok = true := by decide +kernel
theorem jll_37 : jl_37.all j_lok = true := by decide +kernel
theorem jll_38 : jl_38.all j_lok = true := by decide +kernel
theorem jll_39 : jl_39.all j_lok = true := by decide +kernel
theorem jll_40 : jl_40.all j_lok = true := by decide +kernel
theorem jll_41 : jl_41.all j_lok = true := by decide +kernel
theorem jll_42 : jl_42.all j_lok = true := by decide +kernel
theorem jll_43 : jl_43.all j_lok = true := by decide +kernel
theorem jll_44 : jl_44.all j_lok = true := by decide +kernel
theorem jll_45 : jl_45.all j_lok = true := by decide +kernel
theorem jll_46 : jl_46.all j_lok = true := by decide +kernel
theorem jll_47 : jl_47.all j_lok = true := by decide +kernel
theorem jll_48 : jl_48.all j_lok = true := by decide +kernel
theorem jll_49 : jl_49.all j_lok = true := by decide +kernel
theorem jll_50 : jl_50.all j_lok = true := by decide +kernel
theorem jll_51 : jl_51.all j_lok = true := by decide +kernel
theorem jll_52 : jl_52.all j_lok = true := by decide +kernel
theorem jll_53 : jl_53.all j_lok = true := by decide +kernel
theorem jll_54 : jl_54.all j_lok = true := by decide +kernel
theorem jll_55 : jl_55.all j_lok = true := by decide +kernel
theorem jll_56 : jl_56.all j_lok = true := by decide +kernel
theorem jll_57 : jl_57.all j_lok = true := by decide +kernel
theorem jll_58 : jl_58.all j_lok = true := by decide +kernel
theorem jll_59 : jl_59.all j_lok = true := by decide +kernel
theorem jll_60 : jl_60.all j_lok = true := by decide +kernel
theorem jll_61 : jl_61.all j_lok = true := by decide +kernel
theorem jll_62 : jl_62.all j_lok = true := by decide +kernel
theorem jll_63 : jl_63.all j_lok = true := by decide +kernel
theorem jll_64 : jl_64.all j_lok = true := by decide +kernel
theorem jll_65 : jl_65.all j_lok = true := by decide +kernel
theorem jll_66 : jl_66.all j_lok = true := by decide +kernel
theorem jll_67 : jl_67.all j_lok = true := by decide +kernel
theorem jll_68 : jl_68.all j_lok = true := by decide +kernel
theorem jll_69 : jl_69.all j_lok = true := by decide +kernel
theorem jll_70 : jl_70.all j_lok = true := by decide +kernel
theorem jll_71 : jl_71.all j_lok = true := by decide +kernel
theorem jll_72 : jl_72.all j_lok = true := by decide +kernel
theorem jll_73 : jl_73.all j_lok = true := by decide +kernel
theorem jll_74 : jl_74.all j_lok = true := by decide +kernel
theorem jll_75 : jl_75.all j_lok = true := by decide +kernel
theorem jll_76 : jl_76.all j_lok = true := by decide +kernel
theorem jll_77 : jl_77.all j_lok = true := by decide +kernel
theorem jll_78 : jl_78.all j_lok = true := by decide +kernel
theorem jll_79 : jl_79.all j_lok = true := by decide +kernel
theorem jll_80 : jl_80.all j_lok = true := by decide +kernel
theorem jll_81 : jl_81.all j_lok = true := by decide +kernel
theorem jll_82 : jl_82.all j_lok = true := by decide +kernel
theorem jll_83 : jl_83.all j_lok = true := by decide +kernel
theorem jll_84 : jl_84.all j_lok = true := by decide +kernel
theorem jll_85 : jl_85.all j_lok = true := by decide +kernel
theorem jll_86 : jl_86.all j_lok = true := by decide +kernel
theorem jll_87 : jl_87.all j_lok = true := by decide +kernel
theorem jll_88 : jl_88.all j_lok = true := by decide +kernel
theorem jll_89 : jl_89.all j_lok = true := by decide +kernel
theorem jll_90 : jl_90.all j_lok = true := by decide +kernel
theorem jll_91 : jl_91.all j_lok = true := by decide +kernel
theorem jll_92 : jl_92.all j_lok = true := by decide +kernel
theorem jll_93 : jl_93.all j_lok = true := by decide +kernel
theorem jll_94 : jl_94.all j_lok = true := by decide +kernel
theorem jll_95 : jl_95.all j_lok = true := by decide +kernel
theorem jll_96 : jl_96.all j_lok = true := by decide +kernel
theorem jll_97 : jl_97.all j_lok = true := by decide +kernel
theorem jll_98 : jl_98.all j_lok = true := by decide +kernel
theorem jll_99 : jl_99.all j_lok = true := by decide +kernel
theorem jll_100 : jl_100.all j_lok = true := by decide +kernel
theorem jll_101 : jl_101.all j_lok = true := by decide +kernel
theorem jll_102 : jl_102.all j_lok = true := by decide +kernel
theorem jll_103 : jl_103.all j_lok = true := by decide +kernel
theorem jll_104 : jl_104.all j_lok = true := by decide +kernel
theorem jll_105 : jl_105.all j_lok = true := by decide +kernel
theorem jll_106 : jl_106.all j_lok = true := by decide +kernel
theorem jll_107 : jl_107.all j_lok = true := by decide +kernel
theorem jll_108 : jl_108.all j_lok = true := by decide +kernel
theorem jll_109 : jl_109.all j_lok = true := by decide +kernel
theorem jll_110 : jl_110.all j_lok = true := by decide +kernel
theorem jll_111 : jl_111.all j_lok = true := by decide +kernel
theorem jll_112 : jl_112.all j_lok = true := by decide +kernel
theorem jll_113 : jl_113.all j_lok = true := by decide +kernel
theorem jll_114 : jl_114.all j_lok = true := by decide +kernel
theorem jll_115 : jl_115.all j_lok = true := by decide +kernel
theorem jll_116 : jl_116.all j_lok = true := by decide +kernel
theorem jll_117 : jl_117.all j_lok = true := by decide +kernel
theorem jll_118 : jl_118.all j_lok = true := by decide +kernel
theorem jll_119 : jl_119.all j_lok = true := by decide +kernel
theorem jll_120 : jl_120.all j_lok = true := by decide +kernel
theorem jll_121 : jl_121.all j_lok = true := by decide +kernel
theorem jll_122 : jl_122.all j_lok = true := by decide +kernel
theorem jll_123 : jl_123.all j_lok = true := by decide +kernel
theorem jll_124 : jl_124.all j_lok = true := by decide +kernel
theorem jll_125 : jl_125.all j_lok = true := by decide +kernel
theorem jll_126 : jl_126.all j_lok = true := by decide +kernel
theorem jll_127 : jl_127.all j_lok = true := by decide +kernel
theorem jll_128 : jl_128.all j_lok = true := by decide +kernel
theorem jll_129 : jl_129.all j_lok = true := by decide +kernel
theorem jll_130 : jl_130.all j_lok = true := by decide +kernel
theorem jll_131 : jl_131.all j_lok = true := by decide +kernel
theorem jll_132 : jl_132.all j_lok = true := by decide +kernel
theorem jll_133 : jl_133.all j_lok = true := by decide +kernel
theorem jll_134 : jl_134.all j_lok = true := by decide +kernel
theorem jll_135 : jl_135.all j_lok = true := by decide +kernel
theorem jll_136 : jl_136.all j_lok = true := by decide +kernel
theorem jll_137 : jl_137.all j_lok = true := by decide +kernel
theorem jll_138 : jl_138.all j_lok = true := by decide +kernel
theorem jll_139 : jl_139.all j_lok = true := by decide +kernel
theorem jll_140 : jl_140.all j_lok = true := by decide +kernel
theorem jll_141 : jl_141.all j_lok = true := by decide +kernel
theorem jll_142 : jl_142.all j_lok = true := by decide +kernel
theorem jll_143 : jl_143.all j_lok = true := by decide +kernel
theorem jll_144 : jl_144.all j_lok = true := by decide +kernel
theorem jll_145 : jl_145.all j_lok = true := by decide +kernel
theorem jll_146 : jl_146.all j_lok = true := by decide +kernel
theorem jll_147 : jl_147.all j_lok = true := by decide +kernel
theorem jll_148 : jl_148.all j_lok = true := by decide +kernel
theorem jll_149 : jl_149.all j_lok = true := by decide +kernel
theorem jll_150 : jl_150.all j_lok = true := by decide +kernel
theorem jll_151 : jl_151.all j_lok = true := by decide +kernel
theorem jll_152 : jl_152.all j_lok = true := by decide +kernel
theorem jll_153 : jl_153.all j_lok = true := by decide +kernel
theorem jll_154 : jl_154.all j_lok = true := by decide +kernel
theorem jll_155 : jl_155.all j_lok = true := by decide +kernel
theorem jll_156 : jl_156.all j_lok = true := by decide +kernel
theorem jll_157 : jl_157.all j_lok = true := by decide +kernel
theorem jll_158 : jl_158.all j_lok = true := by decide +kernel
theorem jll_159 : jl_159.all j_lok = true := by decide +kernel
theorem jll_160 : jl_160.all j_lok = true := by decide +kernel
theorem jll_161 : jl_161.all j_lok = true := by decide +kernel
theorem jll_162 : jl_162.all j_lok = true := by decide +kernel
theorem jll_163 : jl_163.all j_lok = true := by decide +kernel
theorem jll_164 : jl_164.all j_lok = true := by decide +kernel
theorem jll_165 : jl_165.all j_lok = true := by decide +kernel
theorem jll_166 : jl_166.all j_lok = true := by decide +kernel
theorem jll_167 : jl_167.all j_lok = true := by decide +kernel
theorem jll_168 : jl_168.all j_lok = true := by decide +kernel
theorem jll_169 : jl_169.all j_lok = true := by decide +kernel
theorem jll_170 : jl_170.all j_lok = true := by decide +kernel
theorem jll_171 : jl_171.all j_lok = true := by decide +kernel
theorem jll_172 : jl_172.all j_lok = true := by decide +kernel
theorem jll_173 : jl_173.all j_lok = true := by decide +kernel
theorem jll_174 : jl_174.all j_lok = true := by decide +kernel
theorem jll_175 : jl_175.all j_lok = true := by decide +kernel
theorem jll_176 : jl_176.all j_lok = true := by decide +kernel
theorem jll_177 : jl_177.all j_lok = true := by decide +kernel
theorem jll_178 : jl_178.all j_lok = true := by decide +kernel
theorem jll_179 : jl_179.all j_lok = true := by decide +kernel
theorem jll_180 : jl_180.all j_lok = true := by decide +kernel
theorem jll_181 : jl_181.all j_lok = true := by decide +kernel
theorem jll_182 : jl_182.all j_lok = true := by decide +kernel
theorem jll_183 : jl_183.all j_lok = true := by decide +kernel
theorem jll_184 : jl_184.all j_lok = true := by decide +kernel
theorem jll_185 : jl_185.all j_lok = true := by decide +kernel
theorem jll_186 : jl_186.all j_lok = true := by decide +kernel
theorem jll_187 : jl_187.all j_lok = true := by decide +kernel
theorem jll_188 : jl_188.all j_lok = true := by decide +kernel
theorem jll_189 : jl_189.all j_lok = true := by decide +kernel
theorem jll_190 : jl_190.all j_lok = true := by decide +kernel
theorem jll_191 : jl_191.all j_lok = true := by decide +kernel
theorem jll_192 : jl_192.all j_lok = true := by decide +kernel
theorem jll_193 : jl_193.all j_lok = true := by decide +kernel
theorem jll_194 : jl_194.all j_lok = true := by decide +kernel
theorem jll_195 : jl_195.all j_lok = true := by decide +kernel
theorem jll_196 : jl_196.all j_lok = true := by decide +kernel
theorem jll_197 : jl_197.all j_lok = true := by decide +kernel
theorem jll_198 : jl_198.all j_lok = true := by decide +kernel
theorem jll_199 : jl_199.all j_lok = true := by decide +kernel
theorem jll_200 : jl_200.all j_lok = true := by decide +kernel
theorem jll_201 : jl_201.all j_lok = true := by decide +kernel
theorem jll_202 : jl_202.all j_lok = true := by decide +kernel
theorem jll_203 : jl_203.all j_lok = true := by decide +kernel
theorem jll_204 : jl_204.all j_lok = true := by decide +kernel
theorem jll_205 : jl_205.all j_lok = true := by decide +kernel
theorem jll_206 : jl_206.all j_lok = true := by decide +kernel
theorem jll_207 : jl_207.all j_lok = true := by decide +kernel
theorem jll_208 : jl_208.all j_lok = true := by decide +kernel
theorem jll_209 : jl_209.all j_lok = true := by decide +kernel
theorem jll_210 : jl_210.all j_lok = true := by decide +kernel
theorem jll_211 : jl_211.all j_lok = true := by decide +kernel
theorem jll_212 : jl_212.all j_lok = true := by decide +kernel
theorem jll_213 : jl_213.all j_lok = true := by decide +kernel
theorem jll_214 : jl_214.all j_lok = true := by decide +kernel
theorem jll_215 : jl_215.all j_lok = true := by decide +kernel
theorem jll_216 : jl_216.all j_lok = true := by decide +kernel
theorem jll_217 : jl_217.all j_lok = true := by decide +kernel
theorem jll_218 : jl_218.all j_lok = true := by decide +kernel
theorem jll_219 : jl_219.all j_lok = true := by decide +kernel
theorem jll_220 : jl_220.all j_lok = true := by decide +kernel
theorem jll_221 : jl_221.all j_lok = true := by decide +kernel
theorem jll_222 : jl_222.all j_lok = true := by decide +kernel
theorem jll_223 : jl_223.all j_lok = true := by decide +kernel
theorem jll_224 : jl_224.all j_lok = true := by decide +kernel
theorem jll_225 : jl_225.all j_lok = true := by decide +kernel
set_option maxRecDepth 100000 in
theorem j_lall : ∀ m ∈ j_mt, m.2.2.2.2.2.2.2.all j_lok = true := List.forall_mem_cons.mpr ⟨jll_0, List.forall_mem_cons.mpr ⟨jll_1, List.forall_mem_cons.mpr ⟨jll_2, List.forall_mem_cons.mpr ⟨jll_3, List.forall_mem_cons.mpr ⟨jll_4, List.forall_mem_cons.mpr ⟨jll_5, List.forall_mem_cons.mpr ⟨jll_6, List.forall_mem_cons.mpr ⟨jll_7, List.forall_mem_cons.mpr ⟨jll_8, List.forall_mem_cons.mpr ⟨jll_9, List.forall_mem_cons.mpr ⟨jll_10, List.forall_mem_cons.mpr ⟨jll_11, List.forall_mem_cons.mpr ⟨jll_12, List.forall_mem_cons.mpr ⟨jll_13, List.forall_mem_cons.mpr ⟨jll_14, List.forall_mem_cons.mpr ⟨jll_15, List.forall_mem_cons.mpr ⟨jll_16, List.forall_mem_cons.mpr ⟨jll_17, List.forall_mem_cons.mpr ⟨jll_18, List.forall_mem_cons.mpr ⟨jll_19, List.forall_mem_cons.mpr ⟨jll_20, List.forall_mem_cons.mpr ⟨jll_21, List.forall_mem_cons.mpr ⟨jll_22, List.forall_mem_cons.mpr ⟨jll_23, List.forall_mem_cons.mpr ⟨jll_24, List.forall_mem_cons.mpr ⟨jll_25, List.forall_mem_cons.mpr ⟨jll_26, List.forall_mem_cons.mpr ⟨jll_27, List.forall_mem_cons.mpr ⟨jll_28, List.forall_mem_cons.mpr ⟨jll_29, List.forall_mem_cons.mpr ⟨jll_30, List.forall_mem_cons.mpr ⟨jll_31, List.forall_mem_cons.mpr ⟨jll_32, List.forall_mem_cons.mpr ⟨jll_33, List.forall_mem_cons.mpr ⟨jll_34, List.forall_mem_cons.mpr ⟨jll_35, List.forall_mem_cons.mpr ⟨jll_36, List.forall_mem_cons.mpr ⟨jll_37, List.forall_mem_cons.mpr ⟨jll_38, List.forall_mem_cons.mpr ⟨jll_39, List.forall_mem_cons.mpr ⟨jll_40, List.forall_mem_cons.mpr ⟨jll_41, List.forall_mem_cons.mpr ⟨jll_42, List.forall_mem_cons.mpr ⟨jll_43, List.forall_mem_cons.mpr ⟨jll_44, List.forall_mem_cons.mpr ⟨jll_45, List.forall_mem_cons.mpr ⟨jll_46, List.forall_mem_cons.mpr ⟨jll_47, List.forall_mem_cons.mpr ⟨jll_48, List.forall_mem_cons.mpr ⟨jll_49, List.forall_mem_cons.mpr ⟨jll_50, List.forall_mem_cons.mpr ⟨jll_51, List.forall_mem_cons.mpr ⟨jll_52, List.forall_mem_cons.mpr ⟨jll_53, List.forall_mem_cons.mpr ⟨jll_54, List.forall_mem_cons.mpr ⟨jll_55, List.forall_mem_cons.mpr ⟨jll_56, List.forall_mem_cons.mpr ⟨jll_57, List.forall_mem_cons.mpr ⟨jll_58, List.forall_mem_cons.mpr ⟨jll_59, List.forall_mem_cons.mpr ⟨jll_60, List.forall_mem_cons.mpr ⟨jll_61, List.forall_mem_cons.mpr ⟨jll_62, List.forall_mem_cons.mpr ⟨jll_63, List.forall_mem_cons.mpr ⟨jll_64, List.forall_mem_cons.mpr ⟨jll_65, List.forall_mem_cons.mpr ⟨jll_66, List.forall_mem_cons.mpr ⟨jll_67, List.forall_mem_cons.mpr ⟨jll_68, List.forall_mem_cons.mpr ⟨jll_69, List.forall_mem_cons.mpr ⟨jll_70, List.forall_mem_cons.mpr ⟨jll_71, List.forall_mem_cons.mpr ⟨jll_72, List.forall_mem_cons.mpr ⟨jll_73, List.forall_mem_cons.mpr ⟨jll_74, List.forall_mem_cons.mpr ⟨jll_75, List.forall_mem_cons.mpr ⟨jll_76, List.forall_mem_cons.mpr ⟨jll_77, List.forall_mem_cons.mpr ⟨jll_78, List.forall_mem_cons.mpr ⟨jll_79, List.forall_mem_cons.mpr ⟨jll_80, List.forall_mem_cons.mpr ⟨jll_81, List.forall_mem_cons.mpr ⟨jll_82, List.forall_mem_cons.mpr ⟨jll_83, List.forall_mem_cons.mpr ⟨jll_84, List.forall_mem_cons.mpr ⟨jll_85, List.forall_mem_cons.mpr ⟨jll_86, List.forall_mem_cons.mpr ⟨jll_87, List.forall_mem_cons.mpr ⟨jll_88, List.forall_mem_cons.mpr ⟨jll_89, List.forall_mem_cons.mpr ⟨jll_90, List.forall_mem_cons.mpr ⟨jll_91, List.forall_mem_cons.mpr ⟨jll_92, List.forall_mem_cons.mpr ⟨jll_93, List.forall_mem_cons.mpr ⟨jll_94, List.forall_mem_cons.mpr ⟨jll_95, List.forall_mem_cons.mpr ⟨jll_96, List.forall_mem_cons.mpr ⟨jll_97, List.forall_mem_cons.mpr ⟨jll_98, List.forall_mem_cons.mpr ⟨jll_99, List.forall_mem_cons.mpr ⟨jll_100, List.forall_mem_cons.mpr ⟨jll_101, List.forall_mem_cons.mpr ⟨jll_102, List.forall_mem_cons.mpr ⟨jll_103, List.forall_mem_cons.mpr ⟨jll_104, List.forall_mem_cons.mpr ⟨jll_105, List.forall_mem_cons.mpr ⟨jll_106, List.forall_mem_cons.mpr ⟨jll_107, List.forall_mem_cons.mpr ⟨jll_108, List.forall_mem_cons.mpr ⟨jll_109, List.forall_mem_cons.mpr ⟨jll_110, List.forall_mem_cons.mpr ⟨jll_111, List.forall_mem_cons.mpr ⟨jll_112, List.forall_mem_cons.mpr ⟨jll_113, List.forall_mem_cons.mpr ⟨jll_114, List.forall_mem_cons.mpr ⟨jll_115, List.forall_mem_cons.mpr ⟨jll_116, List.forall_mem_cons.mpr ⟨jll_117, List.forall_mem_cons.mpr ⟨jll_118, List.forall_mem_cons.mpr ⟨jll_119, List.forall_mem_cons.mpr ⟨jll_120, List.forall_mem_cons.mpr ⟨jll_121, List.forall_mem_cons.mpr ⟨jll_122, List.forall_mem_cons.mpr ⟨jll_123, List.forall_mem_cons.mpr ⟨jll_124, List.forall_mem_cons.mpr ⟨jll_125, List.forall_mem_cons.mpr ⟨jll_126, List.forall_mem_cons.mpr ⟨jll_127, List.forall_mem_cons.mpr ⟨jll_128, List.forall_mem_cons.mpr ⟨jll_129, List.forall_mem_cons.mpr ⟨jll_130, List.forall_mem_cons.mpr ⟨jll_131, List.forall_mem_cons.mpr ⟨jll_132, List.forall_mem_cons.mpr ⟨jll_133, List.forall_mem_cons.mpr ⟨jll_134, List.forall_mem_cons.mpr ⟨jll_135, List.forall_mem_cons.mpr ⟨jll_136, List.forall_mem_cons.mpr ⟨jll_137, List.forall_mem_cons.mpr ⟨jll_138, List.forall_mem_cons.mpr ⟨jll_139, List.forall_mem_cons.mpr ⟨jll_140, List.forall_mem_cons.mpr ⟨jll_141, List.forall_mem_cons.mpr ⟨jll_142, List.forall_mem_cons.mpr ⟨jll_143, List.forall_mem_cons.mpr ⟨jll_144, List.forall_mem_cons.mpr ⟨jll_145, List.forall_mem_cons.mpr ⟨jll_146, List.forall_mem_cons.mpr ⟨jll_147, List.forall_mem_cons.mpr ⟨jll_148, List.forall_mem_cons.mpr ⟨jll_149, List.forall_mem_cons.mpr ⟨jll_150, List.forall_mem_cons.mpr ⟨jll_151, List.forall_mem_cons.mpr ⟨jll_152, List.forall_mem_cons.mpr ⟨jll_153, List.forall_mem_cons.mpr ⟨jll_154, List.forall_mem_cons.mpr ⟨jll_155, List.forall_mem_cons.mpr ⟨jll_156, List.forall_mem_cons.mpr ⟨jll_157, List.forall_mem_cons.mpr ⟨jll_158, List.forall_mem_cons.mpr ⟨jll_159, List.forall_mem_cons.mpr ⟨jll_160, List.forall_mem_cons.mpr ⟨jll_161, List.forall_mem_cons.mpr ⟨jll_162, List.forall_mem_cons.mpr ⟨jll_163, List.forall_mem_cons.mpr ⟨jll_164, List.forall_mem_cons.mpr ⟨jll_165, List.forall_mem_cons.mpr ⟨jll_166, List.forall_mem_cons.mpr ⟨jll_167, List.forall_mem_cons.mpr ⟨jll_168, List.forall_mem_cons.mpr ⟨jll_169, List.forall_mem_cons.mpr ⟨jll_170, List.forall_mem_cons.mpr ⟨jll_171, List.forall_mem_cons.mpr ⟨jll_172, List.forall_mem_cons.mpr ⟨jll_173, List.forall_mem_cons.mpr ⟨jll_174, List.forall_mem_cons.mpr ⟨jll_175, List.forall_mem_cons.mpr ⟨jll_176, List.forall_mem_cons.mpr ⟨jll_177, List.forall_mem_cons.mpr ⟨jll_178, List.forall_mem_cons.mpr ⟨jll_179, List.forall_mem_cons.mpr ⟨jll_180, List.forall_mem_cons.mpr ⟨jll_181, List.forall_mem_cons.mpr ⟨jll_182, List.forall_mem_cons.mpr ⟨jll_183, List.forall_mem_cons.mpr ⟨jll_184, List.forall_mem_cons.mpr ⟨jll_185, List.forall_mem_cons.mpr ⟨jll_186, List.forall_mem_cons.mpr ⟨jll_187, List.forall_mem_cons.mpr ⟨jll_188, List.forall_mem_cons.mpr ⟨jll_189, List.forall_mem_cons.mpr ⟨jll_190, List.forall_mem_cons.mpr ⟨jll_191, List.forall_mem_cons.mpr ⟨jll_192, List.forall_mem_cons.mpr ⟨jll_193, List.forall_mem_cons.mpr ⟨jll_194, List.forall_mem_cons.mpr ⟨jll_195, List.forall_mem_cons.mpr ⟨jll_196, List.forall_mem_cons.mpr ⟨jll_197, List.forall_mem_cons.mpr ⟨jll_198, List.forall_mem_cons.mpr ⟨jll_199, List.forall_mem_cons.mpr ⟨jll_200, List.forall_mem_cons.mpr ⟨jll_201, List.forall_mem_cons.mpr ⟨jll_202, List.forall_mem_cons.mpr ⟨jll_203, List.forall_mem_cons.mpr ⟨jll_204, List.forall_mem_cons.mpr ⟨jll_205, List.forall_mem_cons.mpr ⟨jll_206, List.forall_mem_cons.mpr ⟨jll_207, List.forall_mem_cons.mpr ⟨jll_208, List.forall_mem_cons.mpr ⟨jll_209, List.forall_mem_cons.mpr ⟨jll_210, List.forall_mem_cons.mpr ⟨jll_211, List.forall_mem_cons.mpr ⟨jll_212, List.forall_mem_cons.mpr ⟨jll_213, List.forall_mem_cons.mpr ⟨jll_214, List.forall_mem_cons.mpr ⟨jll_215, List.forall_mem_cons.mpr ⟨jll_216, List.forall_mem_cons.mpr ⟨jll_217, List.forall_mem_cons.mpr ⟨jll_218, List.forall_mem_cons.mpr ⟨jll_219, List.forall_mem_cons.mpr ⟨jll_220, List.forall_mem_cons.mpr ⟨jll_221, List.forall_mem_cons.mpr ⟨jll_222, List.forall_mem_cons.mpr ⟨jll_223, List.forall_mem_cons.mpr ⟨jll_224, List.forall_mem_cons.mpr ⟨jll_225, fun _ h => absurd h List.not_mem_nil⟩⟩⟩⟩⟩⟩⟩⟩⟩⟩⟩⟩⟩⟩⟩⟩⟩⟩⟩⟩⟩⟩⟩⟩⟩⟩⟩⟩⟩⟩⟩⟩⟩⟩⟩⟩⟩⟩⟩⟩⟩⟩⟩⟩⟩⟩⟩⟩⟩⟩⟩⟩⟩⟩⟩⟩⟩⟩⟩⟩⟩⟩⟩⟩⟩⟩⟩⟩⟩⟩⟩⟩⟩⟩⟩⟩⟩⟩⟩⟩⟩⟩⟩⟩⟩⟩⟩⟩⟩⟩⟩⟩⟩⟩⟩⟩⟩⟩⟩⟩⟩⟩⟩⟩⟩⟩⟩⟩⟩⟩⟩⟩⟩⟩⟩⟩⟩⟩⟩⟩⟩⟩⟩⟩⟩⟩⟩⟩⟩⟩⟩⟩⟩⟩⟩⟩⟩⟩⟩⟩⟩⟩⟩⟩⟩⟩⟩⟩⟩⟩⟩⟩⟩⟩⟩⟩⟩⟩⟩⟩⟩⟩⟩⟩⟩⟩⟩⟩⟩⟩⟩⟩⟩⟩⟩⟩⟩⟩⟩⟩⟩⟩⟩⟩⟩⟩⟩⟩⟩⟩⟩⟩⟩⟩⟩⟩⟩⟩⟩⟩⟩⟩⟩⟩⟩⟩⟩⟩⟩⟩⟩⟩⟩⟩⟩⟩⟩⟩⟩⟩⟩⟩⟩⟩⟩⟩
