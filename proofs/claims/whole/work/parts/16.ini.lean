/-! The locals at each method's start. -/
theorem ini_0 (a0 : Nat) : j_ini 0 [.ref a0] = [some (.ref a0)] := by unfold j_ini; rw [(by decide +kernel : j_ml 0 = 1)]; rfl
theorem ini_1 (a0 : Nat) : j_ini 1 [.ref a0] = [some (.ref a0)] := by unfold j_ini; rw [(by decide +kernel : j_ml 1 = 1)]; rfl
theorem ini_2 (a0 : Nat) (a1 : Int32) (a2 : Int32) (a3 : Int32) : j_ini 2 [.ref a0, .int a1, .int a2, .int a3] = [some (.ref a0), some (.int a1), some (.int a2), some (.int a3), none, none, none, none] := by unfold j_ini; rw [(by decide +kernel : j_ml 2 = 8)]; rfl
theorem ini_3 (a0 : Int32) (a1 : Int32) (a2 : Int32) : j_ini 3 [.int a0, .int a1, .int a2] = [some (.int a0), some (.int a1), some (.int a2)] := by unfold j_ini; rw [(by decide +kernel : j_ml 3 = 3)]; rfl
theorem ini_4 (a0 : Nat) : j_ini 4 [.ref a0] = [some (.ref a0)] := by unfold j_ini; rw [(by decide +kernel : j_ml 4 = 1)]; rfl
theorem ini_5 (a0 : Nat) (a1 : Nat) : j_ini 5 [.ref a0, .ref a1] = [some (.ref a0), some (.ref a1)] := by unfold j_ini; rw [(by decide +kernel : j_ml 5 = 2)]; rfl
theorem ini_6 (a0 : Nat) : j_ini 6 [.ref a0] = [some (.ref a0)] := by unfold j_ini; rw [(by decide +kernel : j_ml 6 = 1)]; rfl
theorem ini_7 (a0 : Nat) : j_ini 7 [.ref a0] = [some (.ref a0)] := by unfold j_ini; rw [(by decide +kernel : j_ml 7 = 1)]; rfl
theorem ini_8 (a0 : Nat) (a1 : Int32) : j_ini 8 [.ref a0, .int a1] = [some (.ref a0), some (.int a1)] := by unfold j_ini; rw [(by decide +kernel : j_ml 8 = 2)]; rfl
theorem ini_9 (a0 : Nat) (a1 : Int32) : j_ini 9 [.ref a0, .int a1] = [some (.ref a0), some (.int a1)] := by unfold j_ini; rw [(by decide +kernel : j_ml 9 = 2)]; rfl
theorem ini_10 (a0 : Nat) (a1 : Int32) (a2 : Int32) : j_ini 10 [.ref a0, .int a1, .int a2] = [some (.ref a0), some (.int a1), some (.int a2)] := by unfold j_ini; rw [(by decide +kernel : j_ml 10 = 3)]; rfl
theorem ini_11 (a0 : Nat) (a1 : Int32) (a2 : Int32) : j_ini 11 [.ref a0, .int a1, .int a2] = [some (.ref a0), some (.int a1), some (.int a2)] := by unfold j_ini; rw [(by decide +kernel : j_ml 11 = 3)]; rfl
theorem ini_12 (a0 : Nat) (a1 : Int32) (a2 : Int32) : j_ini 12 [.ref a0, .int a1, .int a2] = [some (.ref a0), some (.int a1), some (.int a2)] := by unfold j_ini; rw [(by decide +kernel : j_ml 12 = 3)]; rfl
theorem ini_13 (a0 : Nat) (a1 : Int32) : j_ini 13 [.ref a0, .int a1] = [some (.ref a0), some (.int a1), none, none] := by unfold j_ini; rw [(by decide +kernel : j_ml 13 = 4)]; rfl
theorem ini_14 (a0 : Nat) : j_ini 14 [.ref a0] = [some (.ref a0), none, none] := by unfold j_ini; rw [(by decide +kernel : j_ml 14 = 3)]; rfl
theorem ini_15 (a0 : Nat) (a1 : Int32) : j_ini 15 [.ref a0, .int a1] = [some (.ref a0), some (.int a1)] := by unfold j_ini; rw [(by decide +kernel : j_ml 15 = 2)]; rfl
theorem ini_16 (a0 : Nat) (a1 : Int32) (a2 : Int32) (a3 : Int32) (a4 : Int32) : j_ini 16 [.ref a0, .int a1, .int a2, .int a3, .int a4] = [some (.ref a0), some (.int a1), some (.int a2), some (.int a3), some (.int a4), none, none, none] := by unfold j_ini; rw [(by decide +kernel : j_ml 16 = 8)]; rfl
theorem ini_17 (a0 : Nat) (a1 : Int32) (a2 : Int32) : j_ini 17 [.ref a0, .int a1, .int a2] = [some (.ref a0), some (.int a1), some (.int a2), none, none, none, none, none, none] := by unfold j_ini; rw [(by decide +kernel : j_ml 17 = 9)]; rfl
theorem ini_18 (a0 : Nat) (a1 : Int32) (a2 : Int32) : j_ini 18 [.ref a0, .int a1, .int a2] = [some (.ref a0), some (.int a1), some (.int a2)] := by unfold j_ini; rw [(by decide +kernel : j_ml 18 = 3)]; rfl
theorem ini_19 (a0 : Nat) (a1 : Int32) (a2 : Int32) : j_ini 19 [.ref a0, .int a1, .int a2] = [some (.ref a0), some (.int a1), some (.int a2)] := by unfold j_ini; rw [(by decide +kernel : j_ml 19 = 3)]; rfl
theorem ini_20 (a0 : Nat) (a1 : Int32) (a2 : Int32) : j_ini 20 [.ref a0, .int a1, .int a2] = [some (.ref a0), some (.int a1), some (.int a2)] := by unfold j_ini; rw [(by decide +kernel : j_ml 20 = 3)]; rfl
theorem ini_21 (a0 : Nat) (a1 : Int32) : j_ini 21 [.ref a0, .int a1] = [some (.ref a0), some (.int a1), none] := by unfold j_ini; rw [(by decide +kernel : j_ml 21 = 3)]; rfl
theorem ini_22 (a0 : Nat) : j_ini 22 [.ref a0] = [some (.ref a0), none] := by unfold j_ini; rw [(by decide +kernel : j_ml 22 = 2)]; rfl
theorem ini_23 (a0 : Nat) (a1 : Int32) : j_ini 23 [.ref a0, .int a1] = [some (.ref a0), some (.int a1), none, none, none] := by unfold j_ini; rw [(by decide +kernel : j_ml 23 = 5)]; rfl
theorem ini_24 (a0 : Nat) : j_ini 24 [.ref a0] = [some (.ref a0), none, none, none, none] := by unfold j_ini; rw [(by decide +kernel : j_ml 24 = 5)]; rfl
theorem ini_25 (a0 : Nat) : j_ini 25 [.ref a0] = [some (.ref a0)] := by unfold j_ini; rw [(by decide +kernel : j_ml 25 = 1)]; rfl
theorem ini_26 (a0 : Nat) (a1 : Int32) : j_ini 26 [.ref a0, .int a1] = [some (.ref a0), some (.int a1), none, none] := by unfold j_ini; rw [(by decide +kernel : j_ml 26 = 4)]; rfl
theorem ini_27 (a0 : Nat) (a1 : Int32) : j_ini 27 [.ref a0, .int a1] = [some (.ref a0), some (.int a1), none, none] := by unfold j_ini; rw [(by decide +kernel : j_ml 27 = 4)]; rfl
theorem ini_28 (a0 : Nat) : j_ini 28 [.ref a0] = [some (.ref a0), none, none] := by unfold j_ini; rw [(by decide +kernel : j_ml 28 = 3)]; rfl
theorem ini_29 (a0 : Nat) : j_ini 29 [.ref a0] = [some (.ref a0), none, none] := by unfold j_ini; rw [(by decide +kernel : j_ml 29 = 3)]; rfl
theorem ini_30 (a0 : Nat) (a1 : Int32) : j_ini 30 [.ref a0, .int a1] = [some (.ref a0), some (.int a1), none, none] := by unfold j_ini; rw [(by decide +kernel : j_ml 30 = 4)]; rfl
theorem ini_31 (a0 : Nat) (a1 : Int32) : j_ini 31 [.ref a0, .int a1] = [some (.ref a0), some (.int a1)] := by unfold j_ini; rw [(by decide +kernel : j_ml 31 = 2)]; rfl
theorem ini_32 (a0 : Nat) : j_ini 32 [.ref a0] = [some (.ref a0)] := by unfold j_ini; rw [(by decide +kernel : j_ml 32 = 1)]; rfl
theorem ini_33 (a0 : Nat) (a1 : Int32) : j_ini 33 [.ref a0, .int a1] = [some (.ref a0), some (.int a1)] := by unfold j_ini; rw [(by decide +kernel : j_ml 33 = 2)]; rfl
theorem ini_34 (a0 : Nat) (a1 : Int32) (a2 : Int32) : j_ini 34 [.ref a0, .int a1, .int a2] = [some (.ref a0), some (.int a1), some (.int a2)] := by unfold j_ini; rw [(by decide +kernel : j_ml 34 = 3)]; rfl
theorem ini_35 (a0 : Nat) (a1 : Int32) (a2 : Int32) : j_ini 35 [.ref a0, .int a1, .int a2] = [some (.ref a0), some (.int a1), some (.int a2), none] := by unfold j_ini; rw [(by decide +kernel : j_ml 35 = 4)]; rfl
theorem ini_36 (a0 : Nat) (a1 : Int32) : j_ini 36 [.ref a0, .int a1] = [some (.ref a0), some (.int a1)] := by unfold j_ini; rw [(by decide +kernel : j_ml 36 = 2)]; rfl
theorem ini_37 (a0 : Nat) : j_ini 37 [.ref a0] = [some (.ref a0)] := by unfold j_ini; rw [(by decide +kernel : j_ml 37 = 1)]; rfl
theorem ini_38 (a0 : Nat) : j_ini 38 [.ref a0] = [some (.ref a0)] := by unfold j_ini; rw [(by decide +kernel : j_ml 38 = 1)]; rfl
theorem ini_39 (a0 : Nat) (a1 : Int32) : j_ini 39 [.ref a0, .int a1] = [some (.ref a0), some (.int a1), none] := by unfold j_ini; rw [(by decide +kernel : j_ml 39 = 3)]; rfl
theorem ini_40 (a0 : Nat) : j_ini 40 [.ref a0] = [some (.ref a0), none, none] := by unfold j_ini; rw [(by decide +kernel : j_ml 40 = 3)]; rfl
theorem ini_41 (a0 : Nat) (a1 : Nat) : j_ini 41 [.ref a0, .ref a1] = [some (.ref a0), some (.ref a1)] := by unfold j_ini; rw [(by decide +kernel : j_ml 41 = 2)]; rfl
theorem ini_42 (a0 : Nat) (a1 : Nat) (a2 : Int32) (a3 : Int32) (a4 : Int32) : j_ini 42 [.ref a0, .ref a1, .int a2, .int a3, .int a4] = [some (.ref a0), some (.ref a1), some (.int a2), some (.int a3), some (.int a4)] := by unfold j_ini; rw [(by decide +kernel : j_ml 42 = 5)]; rfl
theorem ini_43 (a0 : Nat) : j_ini 43 [.ref a0] = [some (.ref a0)] := by unfold j_ini; rw [(by decide +kernel : j_ml 43 = 1)]; rfl
theorem ini_44 (a0 : Nat) (a1 : Nat) (a2 : Int32) : j_ini 44 [.ref a0, .ref a1, .int a2] = [some (.ref a0), some (.ref a1), some (.int a2)] := by unfold j_ini; rw [(by decide +kernel : j_ml 44 = 3)]; rfl
theorem ini_45 (a0 : Nat) (a1 : Int32) (a2 : Int32) : j_ini 45 [.ref a0, .int a1, .int a2] = [some (.ref a0), some (.int a1), some (.int a2), none, none, none] := by unfold j_ini; rw [(by decide +kernel : j_ml 45 = 6)]; rfl
theorem ini_46 (a0 : Nat) (a1 : Int32) : j_ini 46 [.ref a0, .int a1] = [some (.ref a0), some (.int a1), none, none] := by unfold j_ini; rw [(by decide +kernel : j_ml 46 = 4)]; rfl
theorem ini_47 (a0 : Nat) (a1 : Int32) : j_ini 47 [.ref a0, .int a1] = [some (.ref a0), some (.int a1)] := by unfold j_ini; rw [(by decide +kernel : j_ml 47 = 2)]; rfl
theorem ini_48 (a0 : Nat) (a1 : Int32) : j_ini 48 [.ref a0, .int a1] = [some (.ref a0), some (.int a1)] := by unfold j_ini; rw [(by decide +kernel : j_ml 48 = 2)]; rfl
theorem ini_49 (a0 : Nat) : j_ini 49 [.ref a0] = [some (.ref a0), none, none] := by unfold j_ini; rw [(by decide +kernel : j_ml 49 = 3)]; rfl
theorem ini_50 (a0 : Nat) : j_ini 50 [.ref a0] = [some (.ref a0)] := by unfold j_ini; rw [(by decide +kernel : j_ml 50 = 1)]; rfl
theorem ini_52 (a0 : Int32) : j_ini 52 [.int a0] = [some (.int a0)] := by unfold j_ini; rw [(by decide +kernel : j_ml 52 = 1)]; rfl
theorem ini_53 (a0 : Int32) : j_ini 53 [.int a0] = [some (.int a0)] := by unfold j_ini; rw [(by decide +kernel : j_ml 53 = 1)]; rfl
theorem ini_54 (a0 : Nat) : j_ini 54 [.ref a0] = [some (.ref a0)] := by unfold j_ini; rw [(by decide +kernel : j_ml 54 = 1)]; rfl
theorem ini_55 (a0 : Nat) : j_ini 55 [.ref a0] = [some (.ref a0)] := by unfold j_ini; rw [(by decide +kernel : j_ml 55 = 1)]; rfl
theorem ini_56 (a0 : Nat) (a1 : Int32) (a2 : Int32) : j_ini 56 [.ref a0, .int a1, .int a2] = [some (.ref a0), some (.int a1), some (.int a2)] := by unfold j_ini; rw [(by decide +kernel : j_ml 56 = 3)]; rfl
theorem ini_57 (a0 : Nat) (a1 : Int32) (a2 : Int32) : j_ini 57 [.ref a0, .int a1, .int a2] = [some (.ref a0), some (.int a1), some (.int a2)] := by unfold j_ini; rw [(by decide +kernel : j_ml 57 = 3)]; rfl
theorem ini_58 (a0 : Nat) : j_ini 58 [.ref a0] = [some (.ref a0)] := by unfold j_ini; rw [(by decide +kernel : j_ml 58 = 1)]; rfl
theorem ini_59 (a0 : Nat) (a1 : Nat) (a2 : Int32) (a3 : Int32) : j_ini 59 [.ref a0, .ref a1, .int a2, .int a3] = [some (.ref a0), some (.ref a1), some (.int a2), some (.int a3), none, none] := by unfold j_ini; rw [(by decide +kernel : j_ml 59 = 6)]; rfl
theorem ini_60 (a0 : Nat) (a1 : Nat) (a2 : Int32) (a3 : Int32) (a4 : Int32) : j_ini 60 [.ref a0, .ref a1, .int a2, .int a3, .int a4] = [some (.ref a0), some (.ref a1), some (.int a2), some (.int a3), some (.int a4), none, none, none] := by unfold j_ini; rw [(by decide +kernel : j_ml 60 = 8)]; rfl
theorem ini_61 (a0 : Nat) (a1 : Int32) : j_ini 61 [.ref a0, .int a1] = [some (.ref a0), some (.int a1), none, none] := by unfold j_ini; rw [(by decide +kernel : j_ml 61 = 4)]; rfl
theorem ini_62 (a0 : Nat) (a1 : Nat) (a2 : Int32) (a3 : Int32) : j_ini 62 [.ref a0, .ref a1, .int a2, .int a3] = [some (.ref a0), some (.ref a1), some (.int a2), some (.int a3), none, none, none] := by unfold j_ini; rw [(by decide +kernel : j_ml 62 = 7)]; rfl
theorem ini_63 (a0 : Nat) (a1 : Int32) : j_ini 63 [.ref a0, .int a1] = [some (.ref a0), some (.int a1), none, none] := by unfold j_ini; rw [(by decide +kernel : j_ml 63 = 4)]; rfl
theorem ini_64 (a0 : Nat) (a1 : Int32) (a2 : Int32) (a3 : Int32) : j_ini 64 [.ref a0, .int a1, .int a2, .int a3] = [some (.ref a0), some (.int a1), some (.int a2), some (.int a3)] := by unfold j_ini; rw [(by decide +kernel : j_ml 64 = 4)]; rfl
theorem ini_65 (a0 : Nat) (a1 : Int32) : j_ini 65 [.ref a0, .int a1] = [some (.ref a0), some (.int a1)] := by unfold j_ini; rw [(by decide +kernel : j_ml 65 = 2)]; rfl
theorem ini_66 (a0 : Nat) (a1 : Nat) (a2 : Int32) : j_ini 66 [.ref a0, .ref a1, .int a2] = [some (.ref a0), some (.ref a1), some (.int a2), none, none, none, none, none] := by unfold j_ini; rw [(by decide +kernel : j_ml 66 = 8)]; rfl
theorem ini_67 (a0 : Nat) (a1 : Nat) (a2 : Int32) : j_ini 67 [.ref a0, .ref a1, .int a2] = [some (.ref a0), some (.ref a1), some (.int a2), none, none, none] := by unfold j_ini; rw [(by decide +kernel : j_ml 67 = 6)]; rfl
theorem ini_68 (a0 : Nat) (a1 : Nat) (a2 : Int32) : j_ini 68 [.ref a0, .ref a1, .int a2] = [some (.ref a0), some (.ref a1), some (.int a2), none] := by unfold j_ini; rw [(by decide +kernel : j_ml 68 = 4)]; rfl
theorem ini_69 (a0 : Nat) (a1 : Int32) : j_ini 69 [.ref a0, .int a1] = [some (.ref a0), some (.int a1), none, none, none] := by unfold j_ini; rw [(by decide +kernel : j_ml 69 = 5)]; rfl
theorem ini_70 (a0 : Nat) (a1 : Nat) (a2 : Int32) (a3 : Int32) : j_ini 70 [.ref a0, .ref a1, .int a2, .int a3] = [some (.ref a0), some (.ref a1), some (.int a2), some (.int a3)] := by unfold j_ini; rw [(by decide +kernel : j_ml 70 = 4)]; rfl
theorem ini_71 (a0 : Nat) (a1 : Nat) (a2 : Int32) (a3 : Int32) : j_ini 71 [.ref a0, .ref a1, .int a2, .int a3] = [some (.ref a0), some (.ref a1), some (.int a2), some (.int a3), none, none] := by unfold j_ini; rw [(by decide +kernel : j_ml 71 = 6)]; rfl
theorem ini_72 (a0 : Nat) (a1 : Nat) (a2 : Nat) : j_ini 72 [.ref a0, .ref a1, .ref a2] = [some (.ref a0), some (.ref a1), some (.ref a2), none] := by unfold j_ini; rw [(by decide +kernel : j_ml 72 = 4)]; rfl
theorem ini_73 (a0 : Nat) : j_ini 73 [.ref a0] = [some (.ref a0)] := by unfold j_ini; rw [(by decide +kernel : j_ml 73 = 1)]; rfl
theorem ini_74 (a0 : Nat) (a1 : Int32) (a2 : Int32) (a3 : Int32) : j_ini 74 [.ref a0, .int a1, .int a2, .int a3] = [some (.ref a0), some (.int a1), some (.int a2), some (.int a3)] := by unfold j_ini; rw [(by decide +kernel : j_ml 74 = 4)]; rfl
theorem ini_75 (a0 : Nat) (a1 : Int32) (a2 : Int32) : j_ini 75 [.ref a0, .int a1, .int a2] = [some (.ref a0), some (.int a1), some (.int a2)] := by unfold j_ini; rw [(by decide +kernel : j_ml 75 = 3)]; rfl
theorem ini_76 (a0 : Nat) (a1 : Int32) (a2 : Int32) (a3 : Int32) (a4 : Int32) : j_ini 76 [.ref a0, .int a1, .int a2, .int a3, .int a4] = [some (.ref a0), some (.int a1), some (.int a2), some (.int a3), some (.int a4), none, none, none, none] := by unfold j_ini; rw [(by decide +kernel : j_ml 76 = 9)]; rfl
theorem ini_77 (a0 : Int32) (a1 : Int32) : j_ini 77 [.int a0, .int a1] = [some (.int a0), some (.int a1), none, none] := by unfold j_ini; rw [(by decide +kernel : j_ml 77 = 4)]; rfl
theorem ini_78 (a0 : Int32) (a1 : Int32) : j_ini 78 [.int a0, .int a1] = [some (.int a0), some (.int a1), none] := by unfold j_ini; rw [(by decide +kernel : j_ml 78 = 3)]; rfl
theorem ini_79 (a0 : Nat) : j_ini 79 [.ref a0] = [some (.ref a0)] := by unfold j_ini; rw [(by decide +kernel : j_ml 79 = 1)]; rfl
theorem ini_80 (a0 : Nat) (a1 : Int32) (a2 : Int32) : j_ini 80 [.ref a0, .int a1, .int a2] = [some (.ref a0), some (.int a1), some (.int a2)] := by unfold j_ini; rw [(by decide +kernel : j_ml 80 = 3)]; rfl
theorem ini_81 (a0 : Nat) (a1 : Int32) (a2 : Int32) : j_ini 81 [.ref a0, .int a1, .int a2] = [some (.ref a0), some (.int a1), some (.int a2)] := by unfold j_ini; rw [(by decide +kernel : j_ml 81 = 3)]; rfl
theorem ini_82 (a0 : Nat) (a1 : Int32) (a2 : Int32) (a3 : Int32) : j_ini 82 [.ref a0, .int a1, .int a2, .int a3] = [some (.ref a0), some (.int a1), some (.int a2), some (.int a3)] := by unfold j_ini; rw [(by decide +kernel : j_ml 82 = 4)]; rfl
theorem ini_83 (a0 : Nat) (a1 : Int32) (a2 : Int32) : j_ini 83 [.ref a0, .int a1, .int a2] = [some (.ref a0), some (.int a1), some (.int a2)] := by unfold j_ini; rw [(by decide +kernel : j_ml 83 = 3)]; rfl
theorem ini_84 (a0 : Nat) (a1 : Int32) (a2 : Int32) : j_ini 84 [.ref a0, .int a1, .int a2] = [some (.ref a0), some (.int a1), some (.int a2)] := by unfold j_ini; rw [(by decide +kernel : j_ml 84 = 3)]; rfl
theorem ini_85 (a0 : Nat) (a1 : Int32) (a2 : Int32) : j_ini 85 [.ref a0, .int a1, .int a2] = [some (.ref a0), some (.int a1), some (.int a2)] := by unfold j_ini; rw [(by decide +kernel : j_ml 85 = 3)]; rfl
theorem ini_86 (a0 : Nat) (a1 : Int32) (a2 : Int32) : j_ini 86 [.ref a0, .int a1, .int a2] = [some (.ref a0), some (.int a1), some (.int a2)] := by unfold j_ini; rw [(by decide +kernel : j_ml 86 = 3)]; rfl
theorem ini_87 (a0 : Nat) (a1 : Int32) (a2 : Int32) : j_ini 87 [.ref a0, .int a1, .int a2] = [some (.ref a0), some (.int a1), some (.int a2)] := by unfold j_ini; rw [(by decide +kernel : j_ml 87 = 3)]; rfl
theorem ini_88 (a0 : Nat) (a1 : Int32) : j_ini 88 [.ref a0, .int a1] = [some (.ref a0), some (.int a1), none] := by unfold j_ini; rw [(by decide +kernel : j_ml 88 = 3)]; rfl
theorem ini_89 (a0 : Nat) (a1 : Int64) (a2 : Int32) : j_ini 89 [.ref a0, .long a1, .int a2] = [some (.ref a0), some (.long a1), none, some (.int a2), none] := by unfold j_ini; rw [(by decide +kernel : j_ml 89 = 5)]; rfl
theorem ini_90 (a0 : Nat) (a1 : Int32) : j_ini 90 [.ref a0, .int a1] = [some (.ref a0), some (.int a1), none] := by unfold j_ini; rw [(by decide +kernel : j_ml 90 = 3)]; rfl
theorem ini_91 (a0 : Nat) (a1 : Int32) (a2 : Int32) (a3 : Int32) (a4 : Int32) : j_ini 91 [.ref a0, .int a1, .int a2, .int a3, .int a4] = [some (.ref a0), some (.int a1), some (.int a2), some (.int a3), some (.int a4)] := by unfold j_ini; rw [(by decide +kernel : j_ml 91 = 5)]; rfl
theorem ini_92 (a0 : Nat) (a1 : Int32) (a2 : Int32) : j_ini 92 [.ref a0, .int a1, .int a2] = [some (.ref a0), some (.int a1), some (.int a2)] := by unfold j_ini; rw [(by decide +kernel : j_ml 92 = 3)]; rfl
theorem ini_93 (a0 : Nat) (a1 : Int32) (a2 : Int32) : j_ini 93 [.ref a0, .int a1, .int a2] = [some (.ref a0), some (.int a1), some (.int a2)] := by unfold j_ini; rw [(by decide +kernel : j_ml 93 = 3)]; rfl
theorem ini_94 (a0 : Nat) (a1 : Int32) : j_ini 94 [.ref a0, .int a1] = [some (.ref a0), some (.int a1)] := by unfold j_ini; rw [(by decide +kernel : j_ml 94 = 2)]; rfl
theorem ini_95 (a0 : Nat) (a1 : Int32) : j_ini 95 [.ref a0, .int a1] = [some (.ref a0), some (.int a1), none] := by unfold j_ini; rw [(by decide +kernel : j_ml 95 = 3)]; rfl
theorem ini_96 (a0 : Nat) (a1 : Int32) (a2 : Int32) : j_ini 96 [.ref a0, .int a1, .int a2] = [some (.ref a0), some (.int a1), some (.int a2), none] := by unfold j_ini; rw [(by decide +kernel : j_ml 96 = 4)]; rfl
theorem ini_97 (a0 : Nat) (a1 : Int32) (a2 : Int32) (a3 : Int32) : j_ini 97 [.ref a0, .int a1, .int a2, .int a3] = [some (.ref a0), some (.int a1), some (.int a2), some (.int a3), none] := by unfold j_ini; rw [(by decide +kernel : j_ml 97 = 5)]; rfl
theorem ini_98 (a0 : Nat) (a1 : Int32) (a2 : Int32) (a3 : Int32) : j_ini 98 [.ref a0, .int a1, .int a2, .int a3] = [some (.ref a0), some (.int a1), some (.int a2), some (.int a3), none] := by unfold j_ini; rw [(by decide +kernel : j_ml 98 = 5)]; rfl
theorem ini_99 (a0 : Nat) (a1 : Int32) (a2 : Int32) : j_ini 99 [.ref a0, .int a1, .int a2] = [some (.ref a0), some (.int a1), some (.int a2), none] := by unfold j_ini; rw [(by decide +kernel : j_ml 99 = 4)]; rfl
theorem ini_100 (a0 : Nat) (a1 : Int32) : j_ini 100 [.ref a0, .int a1] = [some (.ref a0), some (.int a1)] := by unfold j_ini; rw [(by decide +kernel : j_ml 100 = 2)]; rfl
theorem ini_101 (a0 : Nat) : j_ini 101 [.ref a0] = [some (.ref a0), none] := by unfold j_ini; rw [(by decide +kernel : j_ml 101 = 2)]; rfl
theorem ini_102 (a0 : Nat) : j_ini 102 [.ref a0] = [some (.ref a0)] := by unfold j_ini; rw [(by decide +kernel : j_ml 102 = 1)]; rfl
theorem ini_103 (a0 : Nat) (a1 : Int32) (a2 : Int32) : j_ini 103 [.ref a0, .int a1, .int a2] = [some (.ref a0), some (.int a1), some (.int a2)] := by unfold j_ini; rw [(by decide +kernel : j_ml 103 = 3)]; rfl
theorem ini_104 (a0 : Nat) (a1 : Int32) (a2 : Int32) : j_ini 104 [.ref a0, .int a1, .int a2] = [some (.ref a0), some (.int a1), some (.int a2)] := by unfold j_ini; rw [(by decide +kernel : j_ml 104 = 3)]; rfl
theorem ini_105 (a0 : Nat) (a1 : Int32) : j_ini 105 [.ref a0, .int a1] = [some (.ref a0), some (.int a1), none] := by unfold j_ini; rw [(by decide +kernel : j_ml 105 = 3)]; rfl
theorem ini_106 (a0 : Nat) (a1 : Int32) (a2 : Int32) (a3 : Int32) : j_ini 106 [.ref a0, .int a1, .int a2, .int a3] = [some (.ref a0), some (.int a1), some (.int a2), some (.int a3)] := by unfold j_ini; rw [(by decide +kernel : j_ml 106 = 4)]; rfl
theorem ini_107 (a0 : Nat) (a1 : Int32) : j_ini 107 [.ref a0, .int a1] = [some (.ref a0), some (.int a1)] := by unfold j_ini; rw [(by decide +kernel : j_ml 107 = 2)]; rfl
theorem ini_108 (a0 : Nat) (a1 : Int32) (a2 : Int32) (a3 : Int32) : j_ini 108 [.ref a0, .int a1, .int a2, .int a3] = [some (.ref a0), some (.int a1), some (.int a2), some (.int a3), none] := by unfold j_ini; rw [(by decide +kernel : j_ml 108 = 5)]; rfl
theorem ini_109 (a0 : Nat) (a1 : Int32) (a2 : Int32) (a3 : Int32) : j_ini 109 [.ref a0, .int a1, .int a2, .int a3] = [some (.ref a0), some (.int a1), some (.int a2), some (.int a3), none] := by unfold j_ini; rw [(by decide +kernel : j_ml 109 = 5)]; rfl
theorem ini_110 (a0 : Nat) (a1 : Int32) (a2 : Int32) (a3 : Int32) (a4 : Int32) (a5 : Int32) : j_ini 110 [.ref a0, .int a1, .int a2, .int a3, .int a4, .int a5] = [some (.ref a0), some (.int a1), some (.int a2), some (.int a3), some (.int a4), some (.int a5), none, none] := by unfold j_ini; rw [(by decide +kernel : j_ml 110 = 8)]; rfl
theorem ini_111 (a0 : Nat) (a1 : Int32) : j_ini 111 [.ref a0, .int a1] = [some (.ref a0), some (.int a1), none, none, none] := by unfold j_ini; rw [(by decide +kernel : j_ml 111 = 5)]; rfl
theorem ini_112 (a0 : Nat) (a1 : Int32) : j_ini 112 [.ref a0, .int a1] = [some (.ref a0), some (.int a1), none] := by unfold j_ini; rw [(by decide +kernel : j_ml 112 = 3)]; rfl
theorem ini_113 (a0 : Nat) : j_ini 113 [.ref a0] = [some (.ref a0)] := by unfold j_ini; rw [(by decide +kernel : j_ml 113 = 1)]; rfl
theorem ini_114 (a0 : Nat) : j_ini 114 [.ref a0] = [some (.ref a0)] := by unfold j_ini; rw [(by decide +kernel : j_ml 114 = 1)]; rfl
theorem ini_115 (a0 : Nat) (a1 : Int32) : j_ini 115 [.ref a0, .int a1] = [some (.ref a0), some (.int a1)] := by unfold j_ini; rw [(by decide +kernel : j_ml 115 = 2)]; rfl
theorem ini_116 (a0 : Nat) : j_ini 116 [.ref a0] = [some (.ref a0), none] := by unfold j_ini; rw [(by decide +kernel : j_ml 116 = 2)]; rfl
theorem ini_117 (a0 : Nat) (a1 : Int32) : j_ini 117 [.ref a0, .int a1] = [some (.ref a0), some (.int a1)] := by unfold j_ini; rw [(by decide +kernel : j_ml 117 = 2)]; rfl
theorem ini_118 (a0 : Nat) (a1 : Int32) : j_ini 118 [.ref a0, .int a1] = [some (.ref a0), some (.int a1)] := by unfold j_ini; rw [(by decide +kernel : j_ml 118 = 2)]; rfl
theorem ini_119 (a0 : Nat) (a1 : Int32) : j_ini 119 [.ref a0, .int a1] = [some (.ref a0), some (.int a1)] := by unfold j_ini; rw [(by decide +kernel : j_ml 119 = 2)]; rfl
theorem ini_120 (a0 : Nat) (a1 : Int32) (a2 : Int32) : j_ini 120 [.ref a0, .int a1, .int a2] = [some (.ref a0), some (.int a1), some (.int a2)] := by unfold j_ini; rw [(by decide +kernel : j_ml 120 = 3)]; rfl
theorem ini_121 (a0 : Nat) (a1 : Int32) : j_ini 121 [.ref a0, .int a1] = [some (.ref a0), some (.int a1)] := by unfold j_ini; rw [(by decide +kernel : j_ml 121 = 2)]; rfl
theorem ini_122 (a0 : Int32) (a1 : Int32) (a2 : Int32) : j_ini 122 [.int a0, .int a1, .int a2] = [some (.int a0), some (.int a1), some (.int a2)] := by unfold j_ini; rw [(by decide +kernel : j_ml 122 = 3)]; rfl
theorem ini_123 (a0 : Int32) : j_ini 123 [.int a0] = [some (.int a0)] := by unfold j_ini; rw [(by decide +kernel : j_ml 123 = 1)]; rfl
theorem ini_124 (a0 : Int32) : j_ini 124 [.int a0] = [some (.int a0)] := by unfold j_ini; rw [(by decide +kernel : j_ml 124 = 1)]; rfl
theorem ini_125 (a0 : Int32) : j_ini 125 [.int a0] = [some (.int a0)] := by unfold j_ini; rw [(by decide +kernel : j_ml 125 = 1)]; rfl
theorem ini_126 (a0 : Int32) : j_ini 126 [.int a0] = [some (.int a0)] := by unfold j_ini; rw [(by decide +kernel : j_ml 126 = 1)]; rfl
theorem ini_127 (a0 : Int32) : j_ini 127 [.int a0] = [some (.int a0)] := by unfold j_ini; rw [(by decide +kernel : j_ml 127 = 1)]; rfl
theorem ini_128 (a0 : Int32) : j_ini 128 [.int a0] = [some (.int a0)] := by unfold j_ini; rw [(by decide +kernel : j_ml 128 = 1)]; rfl
theorem ini_129 (a0 : Int32) (a1 : Int32) : j_ini 129 [.int a0, .int a1] = [some (.int a0), some (.int a1), none, none] := by unfold j_ini; rw [(by decide +kernel : j_ml 129 = 4)]; rfl
theorem ini_130 (a0 : Int32) : j_ini 130 [.int a0] = [some (.int a0)] := by unfold j_ini; rw [(by decide +kernel : j_ml 130 = 1)]; rfl
theorem ini_131 (a0 : Nat) (a1 : Nat) : j_ini 131 [.ref a0, .ref a1] = [some (.ref a0), some (.ref a1), none, none] := by unfold j_ini; rw [(by decide +kernel : j_ml 131 = 4)]; rfl
theorem ini_132 (a0 : Int32) : j_ini 132 [.int a0] = [some (.int a0), none, none] := by unfold j_ini; rw [(by decide +kernel : j_ml 132 = 3)]; rfl
theorem ini_133 (a0 : Int32) : j_ini 133 [.int a0] = [some (.int a0)] := by unfold j_ini; rw [(by decide +kernel : j_ml 133 = 1)]; rfl
theorem ini_134 (a0 : Int32) : j_ini 134 [.int a0] = [some (.int a0)] := by unfold j_ini; rw [(by decide +kernel : j_ml 134 = 1)]; rfl
theorem ini_135 (a0 : Int32) : j_ini 135 [.int a0] = [some (.int a0)] := by unfold j_ini; rw [(by decide +kernel : j_ml 135 = 1)]; rfl
theorem ini_136 (a0 : Int32) (a1 : Int32) : j_ini 136 [.int a0, .int a1] = [some (.int a0), some (.int a1), none] := by unfold j_ini; rw [(by decide +kernel : j_ml 136 = 3)]; rfl
theorem ini_137 (a0 : Int32) (a1 : Int32) : j_ini 137 [.int a0, .int a1] = [some (.int a0), some (.int a1)] := by unfold j_ini; rw [(by decide +kernel : j_ml 137 = 2)]; rfl
theorem ini_138 (a0 : Int32) (a1 : Int32) (a2 : Int32) : j_ini 138 [.int a0, .int a1, .int a2] = [some (.int a0), some (.int a1), some (.int a2), none, none, none] := by unfold j_ini; rw [(by decide +kernel : j_ml 138 = 6)]; rfl
theorem ini_139 (a0 : Int32) (a1 : Int32) (a2 : Int32) (a3 : Int32) : j_ini 139 [.int a0, .int a1, .int a2, .int a3] = [some (.int a0), some (.int a1), some (.int a2), some (.int a3), none, none] := by unfold j_ini; rw [(by decide +kernel : j_ml 139 = 6)]; rfl
theorem ini_140 (a0 : Int32) (a1 : Int32) : j_ini 140 [.int a0, .int a1] = [some (.int a0), some (.int a1), none, none] := by unfold j_ini; rw [(by decide +kernel : j_ml 140 = 4)]; rfl
theorem ini_141 (a0 : Nat) : j_ini 141 [.ref a0] = [some (.ref a0)] := by unfold j_ini; rw [(by decide +kernel : j_ml 141 = 1)]; rfl
theorem ini_142 (a0 : Nat) (a1 : Int32) : j_ini 142 [.ref a0, .int a1] = [some (.ref a0), some (.int a1)] := by unfold j_ini; rw [(by decide +kernel : j_ml 142 = 2)]; rfl
theorem ini_143 (a0 : Int64) (a1 : Int64) (a2 : Int64) : j_ini 143 [.long a0, .long a1, .long a2] = [some (.long a0), none, some (.long a1), none, some (.long a2), none] := by unfold j_ini; rw [(by decide +kernel : j_ml 143 = 6)]; rfl
theorem ini_144 (a0 : Int32) (a1 : Int32) (a2 : Int32) : j_ini 144 [.int a0, .int a1, .int a2] = [some (.int a0), some (.int a1), some (.int a2)] := by unfold j_ini; rw [(by decide +kernel : j_ml 144 = 3)]; rfl
theorem ini_145 (a0 : Nat) (a1 : Int32) : j_ini 145 [.ref a0, .int a1] = [some (.ref a0), some (.int a1)] := by unfold j_ini; rw [(by decide +kernel : j_ml 145 = 2)]; rfl
theorem ini_146 (a0 : Nat) (a1 : Int32) : j_ini 146 [.ref a0, .int a1] = [some (.ref a0), some (.int a1)] := by unfold j_ini; rw [(by decide +kernel : j_ml 146 = 2)]; rfl
theorem ini_147 (a0 : Nat) (a1 : Int32) (a2 : Int32) : j_ini 147 [.ref a0, .int a1, .int a2] = [some (.ref a0), some (.int a1), some (.int a2)] := by unfold j_ini; rw [(by decide +kernel : j_ml 147 = 3)]; rfl
theorem ini_148 (a0 : Nat) (a1 : Int32) (a2 : Int32) : j_ini 148 [.ref a0, .int a1, .int a2] = [some (.ref a0), some (.int a1), some (.int a2)] := by unfold j_ini; rw [(by decide +kernel : j_ml 148 = 3)]; rfl
theorem ini_149 (a0 : Nat) : j_ini 149 [.ref a0] = [some (.ref a0), none] := by unfold j_ini; rw [(by decide +kernel : j_ml 149 = 2)]; rfl
theorem ini_150 (a0 : Nat) : j_ini 150 [.ref a0] = [some (.ref a0), none] := by unfold j_ini; rw [(by decide +kernel : j_ml 150 = 2)]; rfl
theorem ini_151 (a0 : Nat) : j_ini 151 [.ref a0] = [some (.ref a0)] := by unfold j_ini; rw [(by decide +kernel : j_ml 151 = 1)]; rfl
theorem ini_152 (a0 : Nat) : j_ini 152 [.ref a0] = [some (.ref a0)] := by unfold j_ini; rw [(by decide +kernel : j_ml 152 = 1)]; rfl
theorem ini_153 (a0 : Nat) (a1 : Int32) : j_ini 153 [.ref a0, .int a1] = [some (.ref a0), some (.int a1)] := by unfold j_ini; rw [(by decide +kernel : j_ml 153 = 2)]; rfl
theorem ini_154 (a0 : Nat) (a1 : Int32) : j_ini 154 [.ref a0, .int a1] = [some (.ref a0), some (.int a1)] := by unfold j_ini; rw [(by decide +kernel : j_ml 154 = 2)]; rfl
theorem ini_155 (a0 : Nat) : j_ini 155 [.ref a0] = [some (.ref a0), none, none] := by unfold j_ini; rw [(by decide +kernel : j_ml 155 = 3)]; rfl
theorem ini_156 (a0 : Nat) : j_ini 156 [.ref a0] = [some (.ref a0), none, none] := by unfold j_ini; rw [(by decide +kernel : j_ml 156 = 3)]; rfl
theorem ini_157 (a0 : Nat) : j_ini 157 [.ref a0] = [some (.ref a0), none, none, none] := by unfold j_ini; rw [(by decide +kernel : j_ml 157 = 4)]; rfl
theorem ini_158 (a0 : Nat) : j_ini 158 [.ref a0] = [some (.ref a0), none, none, none] := by unfold j_ini; rw [(by decide +kernel : j_ml 158 = 4)]; rfl
theorem ini_159 (a0 : Nat) : j_ini 159 [.ref a0] = [some (.ref a0), none, none, none] := by unfold j_ini; rw [(by decide +kernel : j_ml 159 = 4)]; rfl
theorem ini_160 (a0 : Nat) : j_ini 160 [.ref a0] = [some (.ref a0), none, none, none, none] := by unfold j_ini; rw [(by decide +kernel : j_ml 160 = 5)]; rfl
theorem ini_161 (a0 : Nat) (a1 : Int32) (a2 : Int32) (a3 : Int32) : j_ini 161 [.ref a0, .int a1, .int a2, .int a3] = [some (.ref a0), some (.int a1), some (.int a2), some (.int a3), none] := by unfold j_ini; rw [(by decide +kernel : j_ml 161 = 5)]; rfl
theorem ini_162 (a0 : Nat) (a1 : Int64) (a2 : Int32) : j_ini 162 [.ref a0, .long a1, .int a2] = [some (.ref a0), some (.long a1), none, some (.int a2), none] := by unfold j_ini; rw [(by decide +kernel : j_ml 162 = 5)]; rfl
theorem ini_163 (a0 : Nat) (a1 : Int32) : j_ini 163 [.ref a0, .int a1] = [some (.ref a0), some (.int a1), none, none, none] := by unfold j_ini; rw [(by decide +kernel : j_ml 163 = 5)]; rfl
theorem ini_164 (a0 : Nat) (a1 : Int32) (a2 : Int32) (a3 : Int32) (a4 : Int32) : j_ini 164 [.ref a0, .int a1, .int a2, .int a3, .int a4] = [some (.ref a0), some (.int a1), some (.int a2), some (.int a3), some (.int a4), none] := by unfold j_ini; rw [(by decide +kernel : j_ml 164 = 6)]; rfl
theorem ini_165 (a0 : Nat) (a1 : Int32) (a2 : Int32) (a3 : Int32) (a4 : Int32) : j_ini 165 [.ref a0, .int a1, .int a2, .int a3, .int a4] = [some (.ref a0), some (.int a1), some (.int a2), some (.int a3), some (.int a4)] := by unfold j_ini; rw [(by decide +kernel : j_ml 165 = 5)]; rfl
theorem ini_166 (a0 : Nat) (a1 : Int32) : j_ini 166 [.ref a0, .int a1] = [some (.ref a0), some (.int a1), none] := by unfold j_ini; rw [(by decide +kernel : j_ml 166 = 3)]; rfl
theorem ini_167 (a0 : Nat) : j_ini 167 [.ref a0] = [some (.ref a0), none, none] := by unfold j_ini; rw [(by decide +kernel : j_ml 167 = 3)]; rfl
theorem ini_168 (a0 : Nat) (a1 : Int32) : j_ini 168 [.ref a0, .int a1] = [some (.ref a0), some (.int a1), none, none] := by unfold j_ini; rw [(by decide +kernel : j_ml 168 = 4)]; rfl
theorem ini_169 (a0 : Int32) : j_ini 169 [.int a0] = [some (.int a0), none, none, none] := by unfold j_ini; rw [(by decide +kernel : j_ml 169 = 4)]; rfl
theorem ini_170 (a0 : Nat) (a1 : Int32) (a2 : Int32) : j_ini 170 [.ref a0, .int a1, .int a2] = [some (.ref a0), some (.int a1), some (.int a2), none, none] := by unfold j_ini; rw [(by decide +kernel : j_ml 170 = 5)]; rfl
theorem ini_171 (a0 : Nat) (a1 : Int32) (a2 : Int32) : j_ini 171 [.ref a0, .int a1, .int a2] = [some (.ref a0), some (.int a1), some (.int a2)] := by unfold j_ini; rw [(by decide +kernel : j_ml 171 = 3)]; rfl
theorem ini_172 (a0 : Nat) (a1 : Int32) (a2 : Int32) : j_ini 172 [.ref a0, .int a1, .int a2] = [some (.ref a0), some (.int a1), some (.int a2), none, none, none] := by unfold j_ini; rw [(by decide +kernel : j_ml 172 = 6)]; rfl
theorem ini_173 (a0 : Nat) (a1 : Int32) : j_ini 173 [.ref a0, .int a1] = [some (.ref a0), some (.int a1), none] := by unfold j_ini; rw [(by decide +kernel : j_ml 173 = 3)]; rfl
theorem ini_174 (a0 : Nat) (a1 : Int32) (a2 : Int32) : j_ini 174 [.ref a0, .int a1, .int a2] = [some (.ref a0), some (.int a1), some (.int a2), none] := by unfold j_ini; rw [(by decide +kernel : j_ml 174 = 4)]; rfl
theorem ini_175 (a0 : Nat) (a1 : Int32) : j_ini 175 [.ref a0, .int a1] = [some (.ref a0), some (.int a1), none, none] := by unfold j_ini; rw [(by decide +kernel : j_ml 175 = 4)]; rfl
theorem ini_176 (a0 : Nat) (a1 : Int32) (a2 : Int32) : j_ini 176 [.ref a0, .int a1, .int a2] = [some (.ref a0), some (.int a1), some (.int a2)] := by unfold j_ini; rw [(by decide +kernel : j_ml 176 = 3)]; rfl
theorem ini_177 (a0 : Nat) (a1 : Int32) (a2 : Int32) (a3 : Int32) : j_ini 177 [.ref a0, .int a1, .int a2, .int a3] = [some (.ref a0), some (.int a1), some (.int a2), some (.int a3), none, none] := by unfold j_ini; rw [(by decide +kernel : j_ml 177 = 6)]; rfl
theorem ini_178 (a0 : Nat) (a1 : Int32) (a2 : Int32) : j_ini 178 [.ref a0, .int a1, .int a2] = [some (.ref a0), some (.int a1), some (.int a2), none] := by unfold j_ini; rw [(by decide +kernel : j_ml 178 = 4)]; rfl
theorem ini_179 (a0 : Int32) : j_ini 179 [.int a0] = [some (.int a0)] := by unfold j_ini; rw [(by decide +kernel : j_ml 179 = 1)]; rfl
theorem ini_180 (a0 : Nat) (a1 : Int32) (a2 : Int32) : j_ini 180 [.ref a0, .int a1, .int a2] = [some (.ref a0), some (.int a1), some (.int a2), none] := by unfold j_ini; rw [(by decide +kernel : j_ml 180 = 4)]; rfl
theorem ini_181 (a0 : Nat) (a1 : Int32) (a2 : Int32) : j_ini 181 [.ref a0, .int a1, .int a2] = [some (.ref a0), some (.int a1), some (.int a2), none, none, none, none, none, none, none, none] := by unfold j_ini; rw [(by decide +kernel : j_ml 181 = 11)]; rfl
theorem ini_182 (a0 : Nat) (a1 : Int32) (a2 : Int32) : j_ini 182 [.ref a0, .int a1, .int a2] = [some (.ref a0), some (.int a1), some (.int a2)] := by unfold j_ini; rw [(by decide +kernel : j_ml 182 = 3)]; rfl
theorem ini_183 (a0 : Nat) (a1 : Int32) (a2 : Int32) : j_ini 183 [.ref a0, .int a1, .int a2] = [some (.ref a0), some (.int a1), some (.int a2), none, none, none] := by unfold j_ini; rw [(by decide +kernel : j_ml 183 = 6)]; rfl
theorem ini_184 (a0 : Nat) (a1 : Int32) (a2 : Int32) : j_ini 184 [.ref a0, .int a1, .int a2] = [some (.ref a0), some (.int a1), some (.int a2)] := by unfold j_ini; rw [(by decide +kernel : j_ml 184 = 3)]; rfl
theorem ini_185 (a0 : Nat) (a1 : Int32) (a2 : Int32) : j_ini 185 [.ref a0, .int a1, .int a2] = [some (.ref a0), some (.int a1), some (.int a2), none] := by unfold j_ini; rw [(by decide +kernel : j_ml 185 = 4)]; rfl
theorem ini_186 (a0 : Nat) (a1 : Int32) : j_ini 186 [.ref a0, .int a1] = [some (.ref a0), some (.int a1), none, none, none] := by unfold j_ini; rw [(by decide +kernel : j_ml 186 = 5)]; rfl
theorem ini_187 (a0 : Nat) : j_ini 187 [.ref a0] = [some (.ref a0), none, none] := by unfold j_ini; rw [(by decide +kernel : j_ml 187 = 3)]; rfl
theorem ini_188 (a0 : Nat) (a1 : Int32) : j_ini 188 [.ref a0, .int a1] = [some (.ref a0), some (.int a1), none] := by unfold j_ini; rw [(by decide +kernel : j_ml 188 = 3)]; rfl
theorem ini_189 (a0 : Nat) (a1 : Int32) : j_ini 189 [.ref a0, .int a1] = [some (.ref a0), some (.int a1)] := by unfold j_ini; rw [(by decide +kernel : j_ml 189 = 2)]; rfl
theorem ini_190 (a0 : Nat) : j_ini 190 [.ref a0] = [some (.ref a0)] := by unfold j_ini; rw [(by decide +kernel : j_ml 190 = 1)]; rfl
theorem ini_191 (a0 : Nat) (a1 : Int32) : j_ini 191 [.ref a0, .int a1] = [some (.ref a0), some (.int a1), none, none, none] := by unfold j_ini; rw [(by decide +kernel : j_ml 191 = 5)]; rfl
theorem ini_192 (a0 : Nat) (a1 : Int32) (a2 : Int32) : j_ini 192 [.ref a0, .int a1, .int a2] = [some (.ref a0), some (.int a1), some (.int a2), none, none, none] := by unfold j_ini; rw [(by decide +kernel : j_ml 192 = 6)]; rfl
theorem ini_193 (a0 : Int32) : j_ini 193 [.int a0] = [some (.int a0), none, none] := by unfold j_ini; rw [(by decide +kernel : j_ml 193 = 3)]; rfl
theorem ini_194 (a0 : Nat) (a1 : Int32) (a2 : Int32) (a3 : Int32) : j_ini 194 [.ref a0, .int a1, .int a2, .int a3] = [some (.ref a0), some (.int a1), some (.int a2), some (.int a3), none, none, none, none, none, none, none] := by unfold j_ini; rw [(by decide +kernel : j_ml 194 = 11)]; rfl
theorem ini_195 (a0 : Nat) (a1 : Int32) (a2 : Int32) (a3 : Int32) (a4 : Int32) : j_ini 195 [.ref a0, .int a1, .int a2, .int a3, .int a4] = [some (.ref a0), some (.int a1), some (.int a2), some (.int a3), some (.int a4), none, none, none, none] := by unfold j_ini; rw [(by decide +kernel : j_ml 195 = 9)]; rfl
theorem ini_196 (a0 : Nat) (a1 : Int32) (a2 : Int32) (a3 : Int32) : j_ini 196 [.ref a0, .int a1, .int a2, .int a3] = [some (.ref a0), some (.int a1), some (.int a2), some (.int a3), none, none, none] := by unfold j_ini; rw [(by decide +kernel : j_ml 196 = 7)]; rfl
theorem ini_197 (a0 : Nat) (a1 : Int32) (a2 : Int32) : j_ini 197 [.ref a0, .int a1, .int a2] = [some (.ref a0), some (.int a1), some (.int a2), none, none, none, none, none, none, none, none, none, none] := by unfold j_ini; rw [(by decide +kernel : j_ml 197 = 13)]; rfl
theorem ini_198 (a0 : Nat) (a1 : Int32) : j_ini 198 [.ref a0, .int a1] = [some (.ref a0), some (.int a1), none, none, none, none, none] := by unfold j_ini; rw [(by decide +kernel : j_ml 198 = 7)]; rfl
theorem ini_199 (a0 : Nat) : j_ini 199 [.ref a0] = [some (.ref a0), none, none, none, none, none, none] := by unfold j_ini; rw [(by decide +kernel : j_ml 199 = 7)]; rfl
theorem ini_200 (a0 : Nat) (a1 : Int32) : j_ini 200 [.ref a0, .int a1] = [some (.ref a0), some (.int a1), none, none] := by unfold j_ini; rw [(by decide +kernel : j_ml 200 = 4)]; rfl
theorem ini_201 (a0 : Nat) : j_ini 201 [.ref a0] = [some (.ref a0), none, none] := by unfold j_ini; rw [(by decide +kernel : j_ml 201 = 3)]; rfl
theorem ini_202 (a0 : Nat) (a1 : Int32) (a2 : Int32) : j_ini 202 [.ref a0, .int a1, .int a2] = [some (.ref a0), some (.int a1), some (.int a2), none] := by unfold j_ini; rw [(by decide +kernel : j_ml 202 = 4)]; rfl
theorem ini_203 (a0 : Nat) (a1 : Int32) (a2 : Int32) : j_ini 203 [.ref a0, .int a1, .int a2] = [some (.ref a0), some (.int a1), some (.int a2), none, none, none] := by unfold j_ini; rw [(by decide +kernel : j_ml 203 = 6)]; rfl
theorem ini_204 (a0 : Nat) (a1 : Int32) : j_ini 204 [.ref a0, .int a1] = [some (.ref a0), some (.int a1), none] := by unfold j_ini; rw [(by decide +kernel : j_ml 204 = 3)]; rfl
theorem ini_205 (a0 : Nat) (a1 : Int32) : j_ini 205 [.ref a0, .int a1] = [some (.ref a0), some (.int a1)] := by unfold j_ini; rw [(by decide +kernel : j_ml 205 = 2)]; rfl
theorem ini_206 (a0 : Nat) (a1 : Int32) (a2 : Int32) : j_ini 206 [.ref a0, .int a1, .int a2] = [some (.ref a0), some (.int a1), some (.int a2)] := by unfold j_ini; rw [(by decide +kernel : j_ml 206 = 3)]; rfl
theorem ini_207 (a0 : Nat) (a1 : Int32) (a2 : Int32) : j_ini 207 [.ref a0, .int a1, .int a2] = [some (.ref a0), some (.int a1), some (.int a2), none] := by unfold j_ini; rw [(by decide +kernel : j_ml 207 = 4)]; rfl
theorem ini_208 (a0 : Nat) (a1 : Int32) (a2 : Int32) : j_ini 208 [.ref a0, .int a1, .int a2] = [some (.ref a0), some (.int a1), some (.int a2)] := by unfold j_ini; rw [(by decide +kernel : j_ml 208 = 3)]; rfl
theorem ini_209 (a0 : Nat) (a1 : Int32) (a2 : Int32) : j_ini 209 [.ref a0, .int a1, .int a2] = [some (.ref a0), some (.int a1), some (.int a2), none] := by unfold j_ini; rw [(by decide +kernel : j_ml 209 = 4)]; rfl
theorem ini_210 (a0 : Nat) (a1 : Int32) (a2 : Int32) (a3 : Int32) : j_ini 210 [.ref a0, .int a1, .int a2, .int a3] = [some (.ref a0), some (.int a1), some (.int a2), some (.int a3), none] := by unfold j_ini; rw [(by decide +kernel : j_ml 210 = 5)]; rfl
theorem ini_211 (a0 : Nat) (a1 : Int32) : j_ini 211 [.ref a0, .int a1] = [some (.ref a0), some (.int a1)] := by unfold j_ini; rw [(by decide +kernel : j_ml 211 = 2)]; rfl
theorem ini_212 (a0 : Int32) : j_ini 212 [.int a0] = [some (.int a0)] := by unfold j_ini; rw [(by decide +kernel : j_ml 212 = 1)]; rfl
theorem ini_213 (a0 : Nat) (a1 : Int32) (a2 : Int32) (a3 : Int32) : j_ini 213 [.ref a0, .int a1, .int a2, .int a3] = [some (.ref a0), some (.int a1), some (.int a2), some (.int a3), none] := by unfold j_ini; rw [(by decide +kernel : j_ml 213 = 5)]; rfl
theorem ini_214 (a0 : Nat) (a1 : Int32) (a2 : Int32) (a3 : Int32) : j_ini 214 [.ref a0, .int a1, .int a2, .int a3] = [some (.ref a0), some (.int a1), some (.int a2), some (.int a3)] := by unfold j_ini; rw [(by decide +kernel : j_ml 214 = 4)]; rfl
theorem ini_215 (a0 : Nat) (a1 : Int32) (a2 : Int32) (a3 : Int32) (a4 : Int32) (a5 : Int32) : j_ini 215 [.ref a0, .int a1, .int a2, .int a3, .int a4, .int a5] = [some (.ref a0), some (.int a1), some (.int a2), some (.int a3), some (.int a4), some (.int a5), none] := by unfold j_ini; rw [(by decide +kernel : j_ml 215 = 7)]; rfl
theorem ini_216 (a0 : Nat) (a1 : Int32) : j_ini 216 [.ref a0, .int a1] = [some (.ref a0), some (.int a1), none] := by unfold j_ini; rw [(by decide +kernel : j_ml 216 = 3)]; rfl
theorem ini_217 (a0 : Nat) (a1 : Int32) : j_ini 217 [.ref a0, .int a1] = [some (.ref a0), some (.int a1), none] := by unfold j_ini; rw [(by decide +kernel : j_ml 217 = 3)]; rfl
theorem ini_218 (a0 : Nat) : j_ini 218 [.ref a0] = [some (.ref a0), none] := by unfold j_ini; rw [(by decide +kernel : j_ml 218 = 2)]; rfl
theorem ini_219 (a0 : Nat) : j_ini 219 [.ref a0] = [some (.ref a0), none] := by unfold j_ini; rw [(by decide +kernel : j_ml 219 = 2)]; rfl
theorem ini_220 (a0 : Nat) (a1 : Int32) : j_ini 220 [.ref a0, .int a1] = [some (.ref a0), some (.int a1)] := by unfold j_ini; rw [(by decide +kernel : j_ml 220 = 2)]; rfl
theorem ini_221 (a0 : Nat) : j_ini 221 [.ref a0] = [some (.ref a0), none, none, none] := by unfold j_ini; rw [(by decide +kernel : j_ml 221 = 4)]; rfl
theorem ini_222 (a0 : Nat) (a1 : Int32) : j_ini 222 [.ref a0, .int a1] = [some (.ref a0), some (.int a1), none, none] := by unfold j_ini; rw [(by decide +kernel : j_ml 222 = 4)]; rfl
theorem ini_223 (a0 : Nat) (a1 : Int32) : j_ini 223 [.ref a0, .int a1] = [some (.ref a0), some (.int a1)] := by unfold j_ini; rw [(by decide +kernel : j_ml 223 = 2)]; rfl
theorem ini_224 (a0 : Int32) : j_ini 224 [.int a0] = [some (.int a0)] := by unfold j_ini; rw [(by decide +kernel : j_ml 224 = 1)]; rfl
theorem ini_225 (a0 : Nat) : j_ini 225 [.ref a0] = [some (.ref a0), none, none, none] := by unfold j_ini; rw [(by decide +kernel : j_ml 225 = 4)]; rfl
