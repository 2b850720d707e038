-- constructors: names, rooms, decoded rows
def y_Ii : MethodName := ⟨"GrossSettlement$Instruction", "<init>", "()V"⟩
def w_Ii : List Cond := Cond.code y_Ii prog_4_method_1_code 1 none :: gs_tb
abbrev r_Ii : Room := { frames := 1, cells := 0, slots := 0, locals := 12 }
theorem b_Ii : Cond.code y_Ii prog_4_method_1_code 1 none ∈ gs_tb := (gs_ww 100 (by decide +kernel) rfl)
theorem d_Ii_0 : decode prog_4_method_1_code 0 = .ok (.aload_n 0, 1) := by decide +kernel
theorem d_Ii_1 : decode prog_4_method_1_code 1 = .ok (.invokespecial 3, 3) := by decide +kernel
theorem d_Ii_4 : decode prog_4_method_1_code 4 = .ok (.return_, 1) := by decide +kernel
def y_Ai : MethodName := ⟨"GrossSettlement$Accounts", "<init>", "()V"⟩
def w_Ai : List Cond := Cond.code y_Ai prog_2_method_1_code 2 none :: gs_tb
abbrev r_Ai : Room := { frames := 1, cells := 6, slots := 114, locals := 12 }
theorem b_Ai : Cond.code y_Ai prog_2_method_1_code 2 none ∈ gs_tb := (gs_ww 62 (by decide +kernel) rfl)
theorem d_Ai_0 : decode prog_2_method_1_code 0 = .ok (.aload_n 0, 1) := by decide +kernel
theorem d_Ai_1 : decode prog_2_method_1_code 1 = .ok (.invokespecial 3, 3) := by decide +kernel
theorem d_Ai_4 : decode prog_2_method_1_code 4 = .ok (.aload_n 0, 1) := by decide +kernel
theorem d_Ai_5 : decode prog_2_method_1_code 5 = .ok (.bipush 18, 2) := by decide +kernel
theorem d_Ai_7 : decode prog_2_method_1_code 7 = .ok (.newarray .long, 2) := by decide +kernel
theorem d_Ai_9 : decode prog_2_method_1_code 9 = .ok (.putfield 9, 3) := by decide +kernel
theorem d_Ai_12 : decode prog_2_method_1_code 12 = .ok (.aload_n 0, 1) := by decide +kernel
theorem d_Ai_13 : decode prog_2_method_1_code 13 = .ok (.bipush 18, 2) := by decide +kernel
theorem d_Ai_15 : decode prog_2_method_1_code 15 = .ok (.newarray .long, 2) := by decide +kernel
theorem d_Ai_17 : decode prog_2_method_1_code 17 = .ok (.putfield 15, 3) := by decide +kernel
theorem d_Ai_20 : decode prog_2_method_1_code 20 = .ok (.aload_n 0, 1) := by decide +kernel
theorem d_Ai_21 : decode prog_2_method_1_code 21 = .ok (.iconst 3, 1) := by decide +kernel
theorem d_Ai_22 : decode prog_2_method_1_code 22 = .ok (.newarray .int, 2) := by decide +kernel
theorem d_Ai_24 : decode prog_2_method_1_code 24 = .ok (.putfield 18, 3) := by decide +kernel
theorem d_Ai_27 : decode prog_2_method_1_code 27 = .ok (.aload_n 0, 1) := by decide +kernel
theorem d_Ai_28 : decode prog_2_method_1_code 28 = .ok (.iconst 3, 1) := by decide +kernel
theorem d_Ai_29 : decode prog_2_method_1_code 29 = .ok (.newarray .int, 2) := by decide +kernel
theorem d_Ai_31 : decode prog_2_method_1_code 31 = .ok (.putfield 22, 3) := by decide +kernel
theorem d_Ai_34 : decode prog_2_method_1_code 34 = .ok (.aload_n 0, 1) := by decide +kernel
theorem d_Ai_35 : decode prog_2_method_1_code 35 = .ok (.bipush 36, 2) := by decide +kernel
theorem d_Ai_37 : decode prog_2_method_1_code 37 = .ok (.newarray .int, 2) := by decide +kernel
theorem d_Ai_39 : decode prog_2_method_1_code 39 = .ok (.putfield 25, 3) := by decide +kernel
theorem d_Ai_42 : decode prog_2_method_1_code 42 = .ok (.aload_n 0, 1) := by decide +kernel
theorem d_Ai_43 : decode prog_2_method_1_code 43 = .ok (.bipush 36, 2) := by decide +kernel
theorem d_Ai_45 : decode prog_2_method_1_code 45 = .ok (.newarray .long, 2) := by decide +kernel
theorem d_Ai_47 : decode prog_2_method_1_code 47 = .ok (.putfield 28, 3) := by decide +kernel
theorem d_Ai_50 : decode prog_2_method_1_code 50 = .ok (.iconst 0, 1) := by decide +kernel
theorem d_Ai_51 : decode prog_2_method_1_code 51 = .ok (.istore_n 1, 1) := by decide +kernel
theorem d_Ai_52 : decode prog_2_method_1_code 52 = .ok (.iload_n 1, 1) := by decide +kernel
theorem d_Ai_53 : decode prog_2_method_1_code 53 = .ok (.bipush 36, 2) := by decide +kernel
theorem d_Ai_55 : decode prog_2_method_1_code 55 = .ok (.if_icmp .ge 16, 3) := by decide +kernel
theorem d_Ai_58 : decode prog_2_method_1_code 58 = .ok (.aload_n 0, 1) := by decide +kernel
theorem d_Ai_59 : decode prog_2_method_1_code 59 = .ok (.getfield 25, 3) := by decide +kernel
theorem d_Ai_62 : decode prog_2_method_1_code 62 = .ok (.iload_n 1, 1) := by decide +kernel
theorem d_Ai_63 : decode prog_2_method_1_code 63 = .ok (.iconst (-1), 1) := by decide +kernel
theorem d_Ai_64 : decode prog_2_method_1_code 64 = .ok (.iastore, 1) := by decide +kernel
theorem d_Ai_65 : decode prog_2_method_1_code 65 = .ok (.iinc 1 1, 3) := by decide +kernel
theorem d_Ai_68 : decode prog_2_method_1_code 68 = .ok (.goto (-16), 3) := by decide +kernel
theorem d_Ai_71 : decode prog_2_method_1_code 71 = .ok (.return_, 1) := by decide +kernel
def y_Qi : MethodName := ⟨"GrossSettlement$Queue", "<init>", "()V"⟩
def w_Qi : List Cond := Cond.code y_Qi prog_5_method_1_code 2 none :: gs_tb
abbrev r_Qi : Room := { frames := 2, cells := 42, slots := 330, locals := 32 }
theorem b_Qi : Cond.code y_Qi prog_5_method_1_code 2 none ∈ gs_tb := (gs_ww 93 (by decide +kernel) rfl)
theorem d_Qi_0 : decode prog_5_method_1_code 0 = .ok (.aload_n 0, 1) := by decide +kernel
theorem d_Qi_1 : decode prog_5_method_1_code 1 = .ok (.invokespecial 3, 3) := by decide +kernel
theorem d_Qi_4 : decode prog_5_method_1_code 4 = .ok (.aload_n 0, 1) := by decide +kernel
theorem d_Qi_5 : decode prog_5_method_1_code 5 = .ok (.bipush 40, 2) := by decide +kernel
theorem d_Qi_7 : decode prog_5_method_1_code 7 = .ok (.anewarray 9, 3) := by decide +kernel
theorem d_Qi_10 : decode prog_5_method_1_code 10 = .ok (.putfield 11, 3) := by decide +kernel
theorem d_Qi_13 : decode prog_5_method_1_code 13 = .ok (.aload_n 0, 1) := by decide +kernel
theorem d_Qi_14 : decode prog_5_method_1_code 14 = .ok (.iconst 0, 1) := by decide +kernel
theorem d_Qi_15 : decode prog_5_method_1_code 15 = .ok (.putfield 17, 3) := by decide +kernel
theorem d_Qi_18 : decode prog_5_method_1_code 18 = .ok (.aload_n 0, 1) := by decide +kernel
theorem d_Qi_19 : decode prog_5_method_1_code 19 = .ok (.bipush 10, 2) := by decide +kernel
theorem d_Qi_21 : decode prog_5_method_1_code 21 = .ok (.newarray .int, 2) := by decide +kernel
theorem d_Qi_23 : decode prog_5_method_1_code 23 = .ok (.putfield 21, 3) := by decide +kernel
theorem d_Qi_26 : decode prog_5_method_1_code 26 = .ok (.aload_n 0, 1) := by decide +kernel
theorem d_Qi_27 : decode prog_5_method_1_code 27 = .ok (.iconst 0, 1) := by decide +kernel
theorem d_Qi_28 : decode prog_5_method_1_code 28 = .ok (.putfield 25, 3) := by decide +kernel
theorem d_Qi_31 : decode prog_5_method_1_code 31 = .ok (.iconst 0, 1) := by decide +kernel
theorem d_Qi_32 : decode prog_5_method_1_code 32 = .ok (.istore_n 1, 1) := by decide +kernel
theorem d_Qi_33 : decode prog_5_method_1_code 33 = .ok (.iload_n 1, 1) := by decide +kernel
theorem d_Qi_34 : decode prog_5_method_1_code 34 = .ok (.bipush 40, 2) := by decide +kernel
theorem d_Qi_36 : decode prog_5_method_1_code 36 = .ok (.if_icmp .ge 22, 3) := by decide +kernel
theorem d_Qi_39 : decode prog_5_method_1_code 39 = .ok (.aload_n 0, 1) := by decide +kernel
theorem d_Qi_40 : decode prog_5_method_1_code 40 = .ok (.getfield 11, 3) := by decide +kernel
theorem d_Qi_43 : decode prog_5_method_1_code 43 = .ok (.iload_n 1, 1) := by decide +kernel
theorem d_Qi_44 : decode prog_5_method_1_code 44 = .ok (.new 9, 3) := by decide +kernel
theorem d_Qi_47 : decode prog_5_method_1_code 47 = .ok (.dup, 1) := by decide +kernel
theorem d_Qi_48 : decode prog_5_method_1_code 48 = .ok (.invokespecial 28, 3) := by decide +kernel
theorem d_Qi_51 : decode prog_5_method_1_code 51 = .ok (.aastore, 1) := by decide +kernel
theorem d_Qi_52 : decode prog_5_method_1_code 52 = .ok (.iinc 1 1, 3) := by decide +kernel
theorem d_Qi_55 : decode prog_5_method_1_code 55 = .ok (.goto (-22), 3) := by decide +kernel
theorem d_Qi_58 : decode prog_5_method_1_code 58 = .ok (.return_, 1) := by decide +kernel
def y_Bi : MethodName := ⟨"GrossSettlement$Book", "<init>", "()V"⟩
def w_Bi : List Cond := Cond.code y_Bi prog_3_method_1_code 1 none :: gs_tb
abbrev r_Bi : Room := { frames := 3, cells := 50, slots := 454, locals := 53 }
theorem b_Bi : Cond.code y_Bi prog_3_method_1_code 1 none ∈ gs_tb := (gs_ww 56 (by decide +kernel) rfl)
theorem d_Bi_0 : decode prog_3_method_1_code 0 = .ok (.aload_n 0, 1) := by decide +kernel
theorem d_Bi_1 : decode prog_3_method_1_code 1 = .ok (.invokespecial 3, 3) := by decide +kernel
theorem d_Bi_4 : decode prog_3_method_1_code 4 = .ok (.aload_n 0, 1) := by decide +kernel
theorem d_Bi_5 : decode prog_3_method_1_code 5 = .ok (.iconst 0, 1) := by decide +kernel
theorem d_Bi_6 : decode prog_3_method_1_code 6 = .ok (.putfield 9, 3) := by decide +kernel
theorem d_Bi_9 : decode prog_3_method_1_code 9 = .ok (.aload_n 0, 1) := by decide +kernel
theorem d_Bi_10 : decode prog_3_method_1_code 10 = .ok (.new 15, 3) := by decide +kernel
theorem d_Bi_13 : decode prog_3_method_1_code 13 = .ok (.dup, 1) := by decide +kernel
theorem d_Bi_14 : decode prog_3_method_1_code 14 = .ok (.invokespecial 17, 3) := by decide +kernel
theorem d_Bi_17 : decode prog_3_method_1_code 17 = .ok (.putfield 18, 3) := by decide +kernel
theorem d_Bi_20 : decode prog_3_method_1_code 20 = .ok (.aload_n 0, 1) := by decide +kernel
theorem d_Bi_21 : decode prog_3_method_1_code 21 = .ok (.new 22, 3) := by decide +kernel
theorem d_Bi_24 : decode prog_3_method_1_code 24 = .ok (.dup, 1) := by decide +kernel
theorem d_Bi_25 : decode prog_3_method_1_code 25 = .ok (.invokespecial 24, 3) := by decide +kernel
theorem d_Bi_28 : decode prog_3_method_1_code 28 = .ok (.putfield 25, 3) := by decide +kernel
theorem d_Bi_31 : decode prog_3_method_1_code 31 = .ok (.return_, 1) := by decide +kernel
def y_Gi : MethodName := ⟨"GrossSettlement", "<init>", "()V"⟩
def w_Gi : List Cond := Cond.code y_Gi prog_1_method_1_code 1 none :: gs_tb
abbrev r_Gi : Room := { frames := 4, cells := 103, slots := 924, locals := 73 }
theorem b_Gi : Cond.code y_Gi prog_1_method_1_code 1 none ∈ gs_tb := (gs_ww 48 (by decide +kernel) rfl)
theorem d_Gi_0 : decode prog_1_method_1_code 0 = .ok (.aload_n 0, 1) := by decide +kernel
theorem d_Gi_1 : decode prog_1_method_1_code 1 = .ok (.invokespecial 3, 3) := by decide +kernel
theorem d_Gi_4 : decode prog_1_method_1_code 4 = .ok (.aload_n 0, 1) := by decide +kernel
theorem d_Gi_5 : decode prog_1_method_1_code 5 = .ok (.new 9, 3) := by decide +kernel
theorem d_Gi_8 : decode prog_1_method_1_code 8 = .ok (.dup, 1) := by decide +kernel
theorem d_Gi_9 : decode prog_1_method_1_code 9 = .ok (.invokespecial 11, 3) := by decide +kernel
theorem d_Gi_12 : decode prog_1_method_1_code 12 = .ok (.putfield 12, 3) := by decide +kernel
theorem d_Gi_15 : decode prog_1_method_1_code 15 = .ok (.aload_n 0, 1) := by decide +kernel
theorem d_Gi_16 : decode prog_1_method_1_code 16 = .ok (.new 9, 3) := by decide +kernel
theorem d_Gi_19 : decode prog_1_method_1_code 19 = .ok (.dup, 1) := by decide +kernel
theorem d_Gi_20 : decode prog_1_method_1_code 20 = .ok (.invokespecial 11, 3) := by decide +kernel
theorem d_Gi_23 : decode prog_1_method_1_code 23 = .ok (.putfield 16, 3) := by decide +kernel
theorem d_Gi_26 : decode prog_1_method_1_code 26 = .ok (.aload_n 0, 1) := by decide +kernel
theorem d_Gi_27 : decode prog_1_method_1_code 27 = .ok (.bipush 10, 2) := by decide +kernel
theorem d_Gi_29 : decode prog_1_method_1_code 29 = .ok (.newarray .boolean, 2) := by decide +kernel
theorem d_Gi_31 : decode prog_1_method_1_code 31 = .ok (.putfield 19, 3) := by decide +kernel
theorem d_Gi_34 : decode prog_1_method_1_code 34 = .ok (.return_, 1) := by decide +kernel
def y_Mi : MethodName := ⟨"GrossSettlementModel", "<init>", "()V"⟩
def w_Mi : List Cond := Cond.code y_Mi prog_7_method_1_code 2 none :: gs_tb
abbrev r_Mi : Room := { frames := 1, cells := 5, slots := 1420, locals := 12 }
theorem b_Mi : Cond.code y_Mi prog_7_method_1_code 2 none ∈ gs_tb := (gs_ww 453 (by decide +kernel) rfl)
theorem d_Mi_0 : decode prog_7_method_1_code 0 = .ok (.aload_n 0, 1) := by decide +kernel
theorem d_Mi_1 : decode prog_7_method_1_code 1 = .ok (.invokespecial 1, 3) := by decide +kernel
theorem d_Mi_4 : decode prog_7_method_1_code 4 = .ok (.aload_n 0, 1) := by decide +kernel
theorem d_Mi_5 : decode prog_7_method_1_code 5 = .ok (.sipush 430, 3) := by decide +kernel
theorem d_Mi_8 : decode prog_7_method_1_code 8 = .ok (.newarray .long, 2) := by decide +kernel
theorem d_Mi_10 : decode prog_7_method_1_code 10 = .ok (.putfield 7, 3) := by decide +kernel
theorem d_Mi_13 : decode prog_7_method_1_code 13 = .ok (.aload_n 0, 1) := by decide +kernel
theorem d_Mi_14 : decode prog_7_method_1_code 14 = .ok (.sipush 430, 3) := by decide +kernel
theorem d_Mi_17 : decode prog_7_method_1_code 17 = .ok (.newarray .long, 2) := by decide +kernel
theorem d_Mi_19 : decode prog_7_method_1_code 19 = .ok (.putfield 13, 3) := by decide +kernel
theorem d_Mi_22 : decode prog_7_method_1_code 22 = .ok (.aload_n 0, 1) := by decide +kernel
theorem d_Mi_23 : decode prog_7_method_1_code 23 = .ok (.bipush 10, 2) := by decide +kernel
theorem d_Mi_25 : decode prog_7_method_1_code 25 = .ok (.newarray .int, 2) := by decide +kernel
theorem d_Mi_27 : decode prog_7_method_1_code 27 = .ok (.putfield 16, 3) := by decide +kernel
theorem d_Mi_30 : decode prog_7_method_1_code 30 = .ok (.aload_n 0, 1) := by decide +kernel
theorem d_Mi_31 : decode prog_7_method_1_code 31 = .ok (.sipush 540, 3) := by decide +kernel
theorem d_Mi_34 : decode prog_7_method_1_code 34 = .ok (.newarray .long, 2) := by decide +kernel
theorem d_Mi_36 : decode prog_7_method_1_code 36 = .ok (.putfield 20, 3) := by decide +kernel
theorem d_Mi_39 : decode prog_7_method_1_code 39 = .ok (.aload_n 0, 1) := by decide +kernel
theorem d_Mi_40 : decode prog_7_method_1_code 40 = .ok (.bipush 10, 2) := by decide +kernel
theorem d_Mi_42 : decode prog_7_method_1_code 42 = .ok (.newarray .int, 2) := by decide +kernel
theorem d_Mi_44 : decode prog_7_method_1_code 44 = .ok (.putfield 23, 3) := by decide +kernel
theorem d_Mi_47 : decode prog_7_method_1_code 47 = .ok (.bipush 34, 2) := by decide +kernel
theorem d_Mi_49 : decode prog_7_method_1_code 49 = .ok (.istore_n 1, 1) := by decide +kernel
theorem d_Mi_50 : decode prog_7_method_1_code 50 = .ok (.iload_n 1, 1) := by decide +kernel
theorem d_Mi_51 : decode prog_7_method_1_code 51 = .ok (.bipush 70, 2) := by decide +kernel
theorem d_Mi_53 : decode prog_7_method_1_code 53 = .ok (.if_icmp .ge 27, 3) := by decide +kernel
theorem d_Mi_56 : decode prog_7_method_1_code 56 = .ok (.aload_n 0, 1) := by decide +kernel
theorem d_Mi_57 : decode prog_7_method_1_code 57 = .ok (.getfield 7, 3) := by decide +kernel
theorem d_Mi_60 : decode prog_7_method_1_code 60 = .ok (.iload_n 1, 1) := by decide +kernel
theorem d_Mi_61 : decode prog_7_method_1_code 61 = .ok (.ldc2_w 26, 3) := by decide +kernel
theorem d_Mi_64 : decode prog_7_method_1_code 64 = .ok (.lastore, 1) := by decide +kernel
theorem d_Mi_65 : decode prog_7_method_1_code 65 = .ok (.aload_n 0, 1) := by decide +kernel
theorem d_Mi_66 : decode prog_7_method_1_code 66 = .ok (.getfield 13, 3) := by decide +kernel
theorem d_Mi_69 : decode prog_7_method_1_code 69 = .ok (.iload_n 1, 1) := by decide +kernel
theorem d_Mi_70 : decode prog_7_method_1_code 70 = .ok (.ldc2_w 26, 3) := by decide +kernel
theorem d_Mi_73 : decode prog_7_method_1_code 73 = .ok (.lastore, 1) := by decide +kernel
theorem d_Mi_74 : decode prog_7_method_1_code 74 = .ok (.iinc 1 1, 3) := by decide +kernel
theorem d_Mi_77 : decode prog_7_method_1_code 77 = .ok (.goto (-27), 3) := by decide +kernel
theorem d_Mi_80 : decode prog_7_method_1_code 80 = .ok (.return_, 1) := by decide +kernel
