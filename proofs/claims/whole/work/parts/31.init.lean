theorem dS_init_0 : decode mS_init.2.1 0 = .ok (.aload_n 0, 1) := by decide +kernel
theorem dS_init_1 : decode mS_init.2.1 1 = .ok (.invokespecial 3, 3) := by decide +kernel
theorem dS_init_4 : decode mS_init.2.1 4 = .ok (.aload_n 0, 1) := by decide +kernel
theorem dS_init_5 : decode mS_init.2.1 5 = .ok (.new 9, 3) := by decide +kernel
theorem dS_init_8 : decode mS_init.2.1 8 = .ok (.dup, 1) := by decide +kernel
theorem dS_init_9 : decode mS_init.2.1 9 = .ok (.invokespecial 11, 3) := by decide +kernel
theorem dS_init_12 : decode mS_init.2.1 12 = .ok (.putfield 12, 3) := by decide +kernel
theorem dS_init_15 : decode mS_init.2.1 15 = .ok (.aload_n 0, 1) := by decide +kernel
theorem dS_init_16 : decode mS_init.2.1 16 = .ok (.iconst 0, 1) := by decide +kernel
theorem dS_init_17 : decode mS_init.2.1 17 = .ok (.newarray .int, 2) := by decide +kernel
theorem dS_init_19 : decode mS_init.2.1 19 = .ok (.putfield 18, 3) := by decide +kernel
theorem dS_init_22 : decode mS_init.2.1 22 = .ok (.aload_n 0, 1) := by decide +kernel
theorem dS_init_23 : decode mS_init.2.1 23 = .ok (.iconst 0, 1) := by decide +kernel
theorem dS_init_24 : decode mS_init.2.1 24 = .ok (.newarray .long, 2) := by decide +kernel
theorem dS_init_26 : decode mS_init.2.1 26 = .ok (.putfield 22, 3) := by decide +kernel
theorem dS_init_29 : decode mS_init.2.1 29 = .ok (.return_, 1) := by decide +kernel
theorem dR_init_0 : decode mR_init.2.1 0 = .ok (.aload_n 0, 1) := by decide +kernel
theorem dR_init_1 : decode mR_init.2.1 1 = .ok (.invokespecial 3, 3) := by decide +kernel
theorem dR_init_4 : decode mR_init.2.1 4 = .ok (.aload_n 0, 1) := by decide +kernel
theorem dR_init_5 : decode mR_init.2.1 5 = .ok (.bipush 7, 2) := by decide +kernel
theorem dR_init_7 : decode mR_init.2.1 7 = .ok (.newarray .int, 2) := by decide +kernel
theorem dR_init_9 : decode mR_init.2.1 9 = .ok (.putfield 11, 3) := by decide +kernel
theorem dR_init_12 : decode mR_init.2.1 12 = .ok (.aload_n 0, 1) := by decide +kernel
theorem dR_init_13 : decode mR_init.2.1 13 = .ok (.bipush 112, 2) := by decide +kernel
theorem dR_init_15 : decode mR_init.2.1 15 = .ok (.newarray .int, 2) := by decide +kernel
theorem dR_init_17 : decode mR_init.2.1 17 = .ok (.putfield 15, 3) := by decide +kernel
theorem dR_init_20 : decode mR_init.2.1 20 = .ok (.aload_n 0, 1) := by decide +kernel
theorem dR_init_21 : decode mR_init.2.1 21 = .ok (.bipush 7, 2) := by decide +kernel
theorem dR_init_23 : decode mR_init.2.1 23 = .ok (.newarray .int, 2) := by decide +kernel
theorem dR_init_25 : decode mR_init.2.1 25 = .ok (.putfield 18, 3) := by decide +kernel
theorem dR_init_28 : decode mR_init.2.1 28 = .ok (.aload_n 0, 1) := by decide +kernel
theorem dR_init_29 : decode mR_init.2.1 29 = .ok (.iconst 0, 1) := by decide +kernel
theorem dR_init_30 : decode mR_init.2.1 30 = .ok (.newarray .int, 2) := by decide +kernel
theorem dR_init_32 : decode mR_init.2.1 32 = .ok (.putfield 21, 3) := by decide +kernel
theorem dR_init_35 : decode mR_init.2.1 35 = .ok (.aload_n 0, 1) := by decide +kernel
theorem dR_init_36 : decode mR_init.2.1 36 = .ok (.iconst 0, 1) := by decide +kernel
theorem dR_init_37 : decode mR_init.2.1 37 = .ok (.newarray .int, 2) := by decide +kernel
theorem dR_init_39 : decode mR_init.2.1 39 = .ok (.putfield 24, 3) := by decide +kernel
theorem dR_init_42 : decode mR_init.2.1 42 = .ok (.aload_n 0, 1) := by decide +kernel
theorem dR_init_43 : decode mR_init.2.1 43 = .ok (.iconst 0, 1) := by decide +kernel
theorem dR_init_44 : decode mR_init.2.1 44 = .ok (.newarray .int, 2) := by decide +kernel
theorem dR_init_46 : decode mR_init.2.1 46 = .ok (.putfield 27, 3) := by decide +kernel
theorem dR_init_49 : decode mR_init.2.1 49 = .ok (.return_, 1) := by decide +kernel
theorem dC_init_0 : decode mC_init.2.1 0 = .ok (.aload_n 0, 1) := by decide +kernel
theorem dC_init_1 : decode mC_init.2.1 1 = .ok (.invokespecial 3, 3) := by decide +kernel
theorem dC_init_4 : decode mC_init.2.1 4 = .ok (.aload_n 0, 1) := by decide +kernel
theorem dC_init_5 : decode mC_init.2.1 5 = .ok (.new 9, 3) := by decide +kernel
theorem dC_init_8 : decode mC_init.2.1 8 = .ok (.dup, 1) := by decide +kernel
theorem dC_init_9 : decode mC_init.2.1 9 = .ok (.invokespecial 11, 3) := by decide +kernel
theorem dC_init_12 : decode mC_init.2.1 12 = .ok (.putfield 12, 3) := by decide +kernel
theorem dC_init_15 : decode mC_init.2.1 15 = .ok (.return_, 1) := by decide +kernel
theorem dU_init_0 : decode mU_init.2.1 0 = .ok (.aload_n 0, 1) := by decide +kernel
theorem dU_init_1 : decode mU_init.2.1 1 = .ok (.invokespecial 3, 3) := by decide +kernel
theorem dU_init_4 : decode mU_init.2.1 4 = .ok (.aload_n 0, 1) := by decide +kernel
theorem dU_init_5 : decode mU_init.2.1 5 = .ok (.bipush 64, 2) := by decide +kernel
theorem dU_init_7 : decode mU_init.2.1 7 = .ok (.newarray .long, 2) := by decide +kernel
theorem dU_init_9 : decode mU_init.2.1 9 = .ok (.putfield 9, 3) := by decide +kernel
theorem dU_init_12 : decode mU_init.2.1 12 = .ok (.aload_n 0, 1) := by decide +kernel
theorem dU_init_13 : decode mU_init.2.1 13 = .ok (.bipush 64, 2) := by decide +kernel
theorem dU_init_15 : decode mU_init.2.1 15 = .ok (.newarray .long, 2) := by decide +kernel
theorem dU_init_17 : decode mU_init.2.1 17 = .ok (.putfield 15, 3) := by decide +kernel
theorem dU_init_20 : decode mU_init.2.1 20 = .ok (.return_, 1) := by decide +kernel
theorem dT_init_0 : decode mT_init.2.1 0 = .ok (.aload_n 0, 1) := by decide +kernel
theorem dT_init_1 : decode mT_init.2.1 1 = .ok (.invokespecial 3, 3) := by decide +kernel
theorem dT_init_4 : decode mT_init.2.1 4 = .ok (.aload_n 0, 1) := by decide +kernel
theorem dT_init_5 : decode mT_init.2.1 5 = .ok (.iconst 4, 1) := by decide +kernel
theorem dT_init_6 : decode mT_init.2.1 6 = .ok (.newarray .int, 2) := by decide +kernel
theorem dT_init_8 : decode mT_init.2.1 8 = .ok (.putfield 9, 3) := by decide +kernel
theorem dT_init_11 : decode mT_init.2.1 11 = .ok (.aload_n 0, 1) := by decide +kernel
theorem dT_init_12 : decode mT_init.2.1 12 = .ok (.iconst 4, 1) := by decide +kernel
theorem dT_init_13 : decode mT_init.2.1 13 = .ok (.newarray .int, 2) := by decide +kernel
theorem dT_init_15 : decode mT_init.2.1 15 = .ok (.putfield 15, 3) := by decide +kernel
theorem dT_init_18 : decode mT_init.2.1 18 = .ok (.aload_n 0, 1) := by decide +kernel
theorem dT_init_19 : decode mT_init.2.1 19 = .ok (.iconst 2, 1) := by decide +kernel
theorem dT_init_20 : decode mT_init.2.1 20 = .ok (.newarray .int, 2) := by decide +kernel
theorem dT_init_22 : decode mT_init.2.1 22 = .ok (.putfield 18, 3) := by decide +kernel
theorem dT_init_25 : decode mT_init.2.1 25 = .ok (.aload_n 0, 1) := by decide +kernel
theorem dT_init_26 : decode mT_init.2.1 26 = .ok (.iconst 2, 1) := by decide +kernel
theorem dT_init_27 : decode mT_init.2.1 27 = .ok (.newarray .int, 2) := by decide +kernel
theorem dT_init_29 : decode mT_init.2.1 29 = .ok (.dup, 1) := by decide +kernel
theorem dT_init_30 : decode mT_init.2.1 30 = .ok (.iconst 0, 1) := by decide +kernel
theorem dT_init_31 : decode mT_init.2.1 31 = .ok (.bipush (-2), 2) := by decide +kernel
theorem dT_init_33 : decode mT_init.2.1 33 = .ok (.iastore, 1) := by decide +kernel
theorem dT_init_34 : decode mT_init.2.1 34 = .ok (.dup, 1) := by decide +kernel
theorem dT_init_35 : decode mT_init.2.1 35 = .ok (.iconst 1, 1) := by decide +kernel
theorem dT_init_36 : decode mT_init.2.1 36 = .ok (.bipush (-2), 2) := by decide +kernel
theorem dT_init_38 : decode mT_init.2.1 38 = .ok (.iastore, 1) := by decide +kernel
theorem dT_init_39 : decode mT_init.2.1 39 = .ok (.putfield 21, 3) := by decide +kernel
theorem dT_init_42 : decode mT_init.2.1 42 = .ok (.aload_n 0, 1) := by decide +kernel
theorem dT_init_43 : decode mT_init.2.1 43 = .ok (.iconst 2, 1) := by decide +kernel
theorem dT_init_44 : decode mT_init.2.1 44 = .ok (.newarray .int, 2) := by decide +kernel
theorem dT_init_46 : decode mT_init.2.1 46 = .ok (.dup, 1) := by decide +kernel
theorem dT_init_47 : decode mT_init.2.1 47 = .ok (.iconst 0, 1) := by decide +kernel
theorem dT_init_48 : decode mT_init.2.1 48 = .ok (.bipush (-2), 2) := by decide +kernel
theorem dT_init_50 : decode mT_init.2.1 50 = .ok (.iastore, 1) := by decide +kernel
theorem dT_init_51 : decode mT_init.2.1 51 = .ok (.dup, 1) := by decide +kernel
theorem dT_init_52 : decode mT_init.2.1 52 = .ok (.iconst 1, 1) := by decide +kernel
theorem dT_init_53 : decode mT_init.2.1 53 = .ok (.bipush (-2), 2) := by decide +kernel
theorem dT_init_55 : decode mT_init.2.1 55 = .ok (.iastore, 1) := by decide +kernel
theorem dT_init_56 : decode mT_init.2.1 56 = .ok (.putfield 24, 3) := by decide +kernel
theorem dT_init_59 : decode mT_init.2.1 59 = .ok (.aload_n 0, 1) := by decide +kernel
theorem dT_init_60 : decode mT_init.2.1 60 = .ok (.iconst 2, 1) := by decide +kernel
theorem dT_init_61 : decode mT_init.2.1 61 = .ok (.newarray .int, 2) := by decide +kernel
theorem dT_init_63 : decode mT_init.2.1 63 = .ok (.dup, 1) := by decide +kernel
theorem dT_init_64 : decode mT_init.2.1 64 = .ok (.iconst 0, 1) := by decide +kernel
theorem dT_init_65 : decode mT_init.2.1 65 = .ok (.bipush (-2), 2) := by decide +kernel
theorem dT_init_67 : decode mT_init.2.1 67 = .ok (.iastore, 1) := by decide +kernel
theorem dT_init_68 : decode mT_init.2.1 68 = .ok (.dup, 1) := by decide +kernel
theorem dT_init_69 : decode mT_init.2.1 69 = .ok (.iconst 1, 1) := by decide +kernel
theorem dT_init_70 : decode mT_init.2.1 70 = .ok (.bipush (-2), 2) := by decide +kernel
theorem dT_init_72 : decode mT_init.2.1 72 = .ok (.iastore, 1) := by decide +kernel
theorem dT_init_73 : decode mT_init.2.1 73 = .ok (.putfield 27, 3) := by decide +kernel
theorem dT_init_76 : decode mT_init.2.1 76 = .ok (.return_, 1) := by decide +kernel
theorem dE_init_0 : decode mE_init.2.1 0 = .ok (.aload_n 0, 1) := by decide +kernel
theorem dE_init_1 : decode mE_init.2.1 1 = .ok (.invokespecial 3, 3) := by decide +kernel
theorem dE_init_4 : decode mE_init.2.1 4 = .ok (.aload_n 0, 1) := by decide +kernel
theorem dE_init_5 : decode mE_init.2.1 5 = .ok (.new 9, 3) := by decide +kernel
theorem dE_init_8 : decode mE_init.2.1 8 = .ok (.dup, 1) := by decide +kernel
theorem dE_init_9 : decode mE_init.2.1 9 = .ok (.invokespecial 11, 3) := by decide +kernel
theorem dE_init_12 : decode mE_init.2.1 12 = .ok (.putfield 12, 3) := by decide +kernel
theorem dE_init_15 : decode mE_init.2.1 15 = .ok (.aload_n 0, 1) := by decide +kernel
theorem dE_init_16 : decode mE_init.2.1 16 = .ok (.bipush 6, 2) := by decide +kernel
theorem dE_init_18 : decode mE_init.2.1 18 = .ok (.newarray .long, 2) := by decide +kernel
theorem dE_init_20 : decode mE_init.2.1 20 = .ok (.putfield 18, 3) := by decide +kernel
theorem dE_init_23 : decode mE_init.2.1 23 = .ok (.aload_n 0, 1) := by decide +kernel
theorem dE_init_24 : decode mE_init.2.1 24 = .ok (.aload_n 1, 1) := by decide +kernel
theorem dE_init_25 : decode mE_init.2.1 25 = .ok (.putfield 22, 3) := by decide +kernel
theorem dE_init_28 : decode mE_init.2.1 28 = .ok (.aload_n 0, 1) := by decide +kernel
theorem dE_init_29 : decode mE_init.2.1 29 = .ok (.iload_n 2, 1) := by decide +kernel
theorem dE_init_30 : decode mE_init.2.1 30 = .ok (.aload_n 1, 1) := by decide +kernel
theorem dE_init_31 : decode mE_init.2.1 31 = .ok (.arraylength, 1) := by decide +kernel
theorem dE_init_32 : decode mE_init.2.1 32 = .ok (.invokestatic 26, 3) := by decide +kernel
theorem dE_init_35 : decode mE_init.2.1 35 = .ok (.putfield 32, 3) := by decide +kernel
theorem dE_init_38 : decode mE_init.2.1 38 = .ok (.return_, 1) := by decide +kernel
theorem dL_init_0 : decode mL_init.2.1 0 = .ok (.aload_n 0, 1) := by decide +kernel
theorem dL_init_1 : decode mL_init.2.1 1 = .ok (.invokespecial 1, 3) := by decide +kernel
theorem dL_init_4 : decode mL_init.2.1 4 = .ok (.aload_n 0, 1) := by decide +kernel
theorem dL_init_5 : decode mL_init.2.1 5 = .ok (.sipush 800, 3) := by decide +kernel
theorem dL_init_8 : decode mL_init.2.1 8 = .ok (.newarray .byte, 2) := by decide +kernel
theorem dL_init_10 : decode mL_init.2.1 10 = .ok (.putfield 9, 3) := by decide +kernel
theorem dL_init_13 : decode mL_init.2.1 13 = .ok (.aload_n 0, 1) := by decide +kernel
theorem dL_init_14 : decode mL_init.2.1 14 = .ok (.new 13, 3) := by decide +kernel
theorem dL_init_17 : decode mL_init.2.1 17 = .ok (.dup, 1) := by decide +kernel
theorem dL_init_18 : decode mL_init.2.1 18 = .ok (.invokespecial 15, 3) := by decide +kernel
theorem dL_init_21 : decode mL_init.2.1 21 = .ok (.putfield 16, 3) := by decide +kernel
theorem dL_init_24 : decode mL_init.2.1 24 = .ok (.aload_n 0, 1) := by decide +kernel
theorem dL_init_25 : decode mL_init.2.1 25 = .ok (.new 20, 3) := by decide +kernel
theorem dL_init_28 : decode mL_init.2.1 28 = .ok (.dup, 1) := by decide +kernel
theorem dL_init_29 : decode mL_init.2.1 29 = .ok (.invokespecial 22, 3) := by decide +kernel
theorem dL_init_32 : decode mL_init.2.1 32 = .ok (.putfield 23, 3) := by decide +kernel
theorem dL_init_35 : decode mL_init.2.1 35 = .ok (.aload_n 0, 1) := by decide +kernel
theorem dL_init_36 : decode mL_init.2.1 36 = .ok (.bipush 16, 2) := by decide +kernel
theorem dL_init_38 : decode mL_init.2.1 38 = .ok (.newarray .int, 2) := by decide +kernel
theorem dL_init_40 : decode mL_init.2.1 40 = .ok (.putfield 27, 3) := by decide +kernel
theorem dL_init_43 : decode mL_init.2.1 43 = .ok (.aload_n 0, 1) := by decide +kernel
theorem dL_init_44 : decode mL_init.2.1 44 = .ok (.iconst 3, 1) := by decide +kernel
theorem dL_init_45 : decode mL_init.2.1 45 = .ok (.newarray .int, 2) := by decide +kernel
theorem dL_init_47 : decode mL_init.2.1 47 = .ok (.putfield 31, 3) := by decide +kernel
theorem dL_init_50 : decode mL_init.2.1 50 = .ok (.aload_n 0, 1) := by decide +kernel
theorem dL_init_51 : decode mL_init.2.1 51 = .ok (.new 34, 3) := by decide +kernel
theorem dL_init_54 : decode mL_init.2.1 54 = .ok (.dup, 1) := by decide +kernel
theorem dL_init_55 : decode mL_init.2.1 55 = .ok (.invokespecial 36, 3) := by decide +kernel
theorem dL_init_58 : decode mL_init.2.1 58 = .ok (.putfield 37, 3) := by decide +kernel
theorem dL_init_61 : decode mL_init.2.1 61 = .ok (.aload_n 0, 1) := by decide +kernel
theorem dL_init_62 : decode mL_init.2.1 62 = .ok (.iconst (-1), 1) := by decide +kernel
theorem dL_init_63 : decode mL_init.2.1 63 = .ok (.putfield 41, 3) := by decide +kernel
theorem dL_init_66 : decode mL_init.2.1 66 = .ok (.aload_n 0, 1) := by decide +kernel
theorem dL_init_67 : decode mL_init.2.1 67 = .ok (.new 34, 3) := by decide +kernel
theorem dL_init_70 : decode mL_init.2.1 70 = .ok (.dup, 1) := by decide +kernel
theorem dL_init_71 : decode mL_init.2.1 71 = .ok (.invokespecial 36, 3) := by decide +kernel
theorem dL_init_74 : decode mL_init.2.1 74 = .ok (.putfield 45, 3) := by decide +kernel
theorem dL_init_77 : decode mL_init.2.1 77 = .ok (.aload_n 0, 1) := by decide +kernel
theorem dL_init_78 : decode mL_init.2.1 78 = .ok (.new 48, 3) := by decide +kernel
theorem dL_init_81 : decode mL_init.2.1 81 = .ok (.dup, 1) := by decide +kernel
theorem dL_init_82 : decode mL_init.2.1 82 = .ok (.invokespecial 50, 3) := by decide +kernel
theorem dL_init_85 : decode mL_init.2.1 85 = .ok (.putfield 51, 3) := by decide +kernel
theorem dL_init_88 : decode mL_init.2.1 88 = .ok (.aload_n 0, 1) := by decide +kernel
theorem dL_init_89 : decode mL_init.2.1 89 = .ok (.new 55, 3) := by decide +kernel
theorem dL_init_92 : decode mL_init.2.1 92 = .ok (.dup, 1) := by decide +kernel
theorem dL_init_93 : decode mL_init.2.1 93 = .ok (.invokespecial 57, 3) := by decide +kernel
theorem dL_init_96 : decode mL_init.2.1 96 = .ok (.putfield 58, 3) := by decide +kernel
theorem dL_init_99 : decode mL_init.2.1 99 = .ok (.aload_n 0, 1) := by decide +kernel
theorem dL_init_100 : decode mL_init.2.1 100 = .ok (.new 62, 3) := by decide +kernel
theorem dL_init_103 : decode mL_init.2.1 103 = .ok (.dup, 1) := by decide +kernel
theorem dL_init_104 : decode mL_init.2.1 104 = .ok (.invokespecial 64, 3) := by decide +kernel
theorem dL_init_107 : decode mL_init.2.1 107 = .ok (.putfield 65, 3) := by decide +kernel
theorem dL_init_110 : decode mL_init.2.1 110 = .ok (.return_, 1) := by decide +kernel
-- new cells, by name
def pS (σ : Shp) (a f r : Nat) : Shp := (up2 (sP σ) a f r, σ.2)
theorem sO_n {σ : Shp} {a c t n : Nat} (h : sO σ a c) : sO (newS σ t n) a c := (eS_new σ t n (fun _ _ => False)).o h
theorem sO_p {σ : Shp} {a c b f r : Nat} (h : sO σ a c) : sO (up2 (sP σ) b f r, σ.2) a c := h
theorem sO_pS {σ : Shp} {a c b f r : Nat} (h : sO σ a c) : sO (pS σ b f r) a c := h
theorem sA_n {σ : Shp} {a c m t n : Nat} (h : sA σ a c m) : sA (newS σ t n) a c m := (eS_new σ t n (fun _ _ => False)).a h
theorem sA_p {σ : Shp} {a c m b f r : Nat} (h : sA σ a c m) : sA (up2 (sP σ) b f r, σ.2) a c m := h
theorem sO_new (σ : Shp) (t n : Nat) (h : 0 < sX σ) : sO (newS σ t n) (sX σ) t := ⟨if_pos rfl, h, Nat.lt_succ_self _⟩
def hiS (σ : Shp) (a : Nat) : Shp := pS (newS (pS (newS (pS (newS (pS (newS (pS (newS σ 11 4) a 8 (sX σ)) 11 4) a 14 (sX σ + 1)) 11 2) a 15 (sX σ + 2)) 11 4) a 16 (sX σ + 3)) 11 2) a 17 (sX σ + 4)
def hiV (V : Nat → Nat → Int) (σ : Shp) (a : Nat) : Nat → Nat → Int := newV (newV (newV (newV (newV (up2 (up2 V a 3 1) a 4 1) (sX σ)) (sX σ + 1)) (sX σ + 2)) (sX σ + 3)) (sX σ + 4)
def siS (σ : Shp) (a : Nat) : Shp := pS (newS (pS (newS (pS (hiS (newS σ 2 0) (sX σ)) a 0 (sX σ)) 11 0) a 5 (sX σ + 6)) 12 0) a 6 (sX σ + 7)
def siV (V : Nat → Nat → Int) (σ : Shp) : Nat → Nat → Int := newV (newV (hiV (newV V (sX σ)) (newS σ 2 0) (sX σ)) (sX σ + 6)) (sX σ + 7)
def riS (σ : Shp) (a : Nat) : Shp := pS (newS (pS (newS (pS (newS (pS (newS (pS (newS (pS (newS σ 11 7) a 1 (sX σ)) 11 112) a 2 (sX σ + 1)) 11 7) a 3 (sX σ + 2)) 11 0) a 4 (sX σ + 3)) 11 0) a 5 (sX σ + 4)) 11 0) a 6 (sX σ + 5)
def riV (V : Nat → Nat → Int) (σ : Shp) : Nat → Nat → Int := newV (newV (newV (newV (newV (newV V (sX σ)) (sX σ + 1)) (sX σ + 2)) (sX σ + 3)) (sX σ + 4)) (sX σ + 5)
def ciS (σ : Shp) (a : Nat) : Shp := pS (hiS (newS σ 2 0) (sX σ)) a 0 (sX σ)
def ciV (V : Nat → Nat → Int) (σ : Shp) : Nat → Nat → Int := hiV (newV V (sX σ)) (newS σ 2 0) (sX σ)
def uiS (σ : Shp) (a : Nat) : Shp := pS (newS (pS (newS σ 12 64) a 3 (sX σ)) 12 64) a 4 (sX σ + 1)
def uiV (V : Nat → Nat → Int) (σ : Shp) : Nat → Nat → Int := newV (newV V (sX σ)) (sX σ + 1)
def tiS (σ : Shp) (a : Nat) : Shp := pS (newS (pS (newS (pS (newS (pS (newS (pS (newS (pS (newS σ 11 4) a 6 (sX σ)) 11 4) a 7 (sX σ + 1)) 11 2) a 8 (sX σ + 2)) 11 2) a 9 (sX σ + 3)) 11 2) a 10 (sX σ + 4)) 11 2) a 11 (sX σ + 5)
def m2V (V : Nat → Nat → Int) (x : Nat) : Nat → Nat → Int := up2 (up2 (newV V x) x 0 (-2)) x 1 (-2)
def tiV (V : Nat → Nat → Int) (σ : Shp) : Nat → Nat → Int := m2V (m2V (m2V (newV (newV (newV V (sX σ)) (sX σ + 1)) (sX σ + 2)) (sX σ + 3)) (sX σ + 4)) (sX σ + 5)
section Init
variable {G : GE} {V : Nat → Nat → Int} {σ : Shp} {K : Option AV → Mem → Prop} {a : Nat}
theorem wH_init (ha : sO σ a 2) (hB : sX σ + 5 < BG) (hK : K none (hiV V σ a, hiS σ a)) : Wp G 0 mH_init [vR a] (V, σ) 5 16 K := by
  have h0 : 0 < a := ha.2.1
  refine wp_intro mH_init_i.1 [some (vR a)] rfl rfl (Nat.le_of_ble_eq_true rfl) ?_
  intro X hG F C
  have hm := C.rm
  refine aw_aload_0 (q := 1) F dH_init_0 rfl ?_
  refine aw_oinit (q := 4) F hm (by first | exact oi_H_5) dH_init_1 rfl (by omega) (Nat.le_of_ble_eq_true rfl) ?_
  refine aw_aload_0 (q := 5) F dH_init_4 rfl ?_
  refine aw_iconst (q := 6) F dH_init_5 rfl (by decide) ?_
  refine av_puti (q := 9) F fH_11 dH_init_6 rfl rfl (wr_2_3 _) (by repeat' first | exact ha | apply sO_p | apply sO_n) ?_
  refine aw_aload_0 (q := 10) F dH_init_9 rfl ?_
  refine aw_iconst (q := 11) F dH_init_10 rfl (by decide) ?_
  refine av_puti (q := 14) F fH_15 dH_init_11 rfl rfl (wr_2_4 _) (by repeat' first | exact ha | apply sO_p | apply sO_n) ?_
  refine aw_aload_0 (q := 15) F dH_init_14 rfl ?_
  refine aw_iconst (q := 16) F dH_init_15 rfl (by decide) ?_
  refine av_newarr (q := 18) (t := 11) F hm dH_init_16 rfl (Or.inr (Or.inl ⟨rfl, rfl⟩)) (by first | (show sX σ < BG; omega) | (show sX σ + 1 < BG; omega) | (show sX σ + 2 < BG; omega) | (show sX σ + 3 < BG; omega) | (show sX σ + 4 < BG; omega)) (by omega) (by omega) (by first | omega | decide) (by first | omega | decide) ?_
  refine av_puta (q := 21) F fH_18 dH_init_18 rfl rfl wf_2_8 (by repeat' first | exact ha | apply sO_p | apply sO_n) ?_
  refine aw_aload_0 (q := 22) F dH_init_21 rfl ?_
  refine aw_iconst (q := 23) F dH_init_22 rfl (by decide) ?_
  refine av_newarr (q := 25) (t := 11) F hm dH_init_23 rfl (Or.inr (Or.inl ⟨rfl, rfl⟩)) (by first | (show sX σ < BG; omega) | (show sX σ + 1 < BG; omega) | (show sX σ + 2 < BG; omega) | (show sX σ + 3 < BG; omega) | (show sX σ + 4 < BG; omega)) (by omega) (by omega) (by first | omega | decide) (by first | omega | decide) ?_
  refine av_puta (q := 28) F fH_22 dH_init_25 rfl rfl wf_2_14 (by repeat' first | exact ha | apply sO_p | apply sO_n) ?_
  refine aw_aload_0 (q := 29) F dH_init_28 rfl ?_
  refine aw_iconst (q := 30) F dH_init_29 rfl (by decide) ?_
  refine av_newarr (q := 32) (t := 11) F hm dH_init_30 rfl (Or.inr (Or.inl ⟨rfl, rfl⟩)) (by first | (show sX σ < BG; omega) | (show sX σ + 1 < BG; omega) | (show sX σ + 2 < BG; omega) | (show sX σ + 3 < BG; omega) | (show sX σ + 4 < BG; omega)) (by omega) (by omega) (by first | omega | decide) (by first | omega | decide) ?_
  refine av_puta (q := 35) F fH_25 dH_init_32 rfl rfl wf_2_15 (by repeat' first | exact ha | apply sO_p | apply sO_n) ?_
  refine aw_aload_0 (q := 36) F dH_init_35 rfl ?_
  refine aw_iconst (q := 37) F dH_init_36 rfl (by decide) ?_
  refine av_newarr (q := 39) (t := 11) F hm dH_init_37 rfl (Or.inr (Or.inl ⟨rfl, rfl⟩)) (by first | (show sX σ < BG; omega) | (show sX σ + 1 < BG; omega) | (show sX σ + 2 < BG; omega) | (show sX σ + 3 < BG; omega) | (show sX σ + 4 < BG; omega)) (by omega) (by omega) (by first | omega | decide) (by first | omega | decide) ?_
  refine av_puta (q := 42) F fH_28 dH_init_39 rfl rfl wf_2_16 (by repeat' first | exact ha | apply sO_p | apply sO_n) ?_
  refine aw_aload_0 (q := 43) F dH_init_42 rfl ?_
  refine aw_iconst (q := 44) F dH_init_43 rfl (by decide) ?_
  refine av_newarr (q := 46) (t := 11) F hm dH_init_44 rfl (Or.inr (Or.inl ⟨rfl, rfl⟩)) (by first | (show sX σ < BG; omega) | (show sX σ + 1 < BG; omega) | (show sX σ + 2 < BG; omega) | (show sX σ + 3 < BG; omega) | (show sX σ + 4 < BG; omega)) (by omega) (by omega) (by first | omega | decide) (by first | omega | decide) ?_
  refine av_puta (q := 49) F fH_31 dH_init_46 rfl rfl wf_2_17 (by repeat' first | exact ha | apply sO_p | apply sO_n) ?_
  refine aw_vret F C dH_init_49 rfl (by decide) (by decide) ?_
  exact hK
theorem wS_init (ha : sO σ a 5) (hB : sX σ + 8 < BG) (hK : K none (siV V σ, siS σ a)) : Wp G 1 mS_init [vR a] (V, σ) 8 34 K := by
  have h0 : 0 < a := ha.2.1
  have hx : 0 < sX σ := Nat.lt_of_le_of_lt (Nat.zero_le _) ha.2.2
  have ha2 : sO (hiS (newS σ 2 0) (sX σ)) a 5 := by
    unfold hiS
    repeat' first | exact ha | apply sO_pS | apply sO_n
  refine wp_intro mS_init_i.1 [some (vR a)] rfl rfl (Nat.le_of_ble_eq_true rfl) ?_
  intro X hG F C
  have hm := C.rm
  refine aw_aload_0 (q := 1) F dS_init_0 rfl ?_
  refine aw_oinit (q := 4) F hm (by first | exact oi_S_3) dS_init_1 rfl (by omega) (Nat.le_of_ble_eq_true rfl) ?_
  refine aw_aload_0 (q := 5) F dS_init_4 rfl ?_
  refine av_new (q := 8) (ci := 2) F hm rfl cS_9 dS_init_5 rfl (by first | (show sX σ < BG; omega) | (show sX σ + 6 < BG; omega) | (show sX σ + 7 < BG; omega)) (by first | omega | decide) (by first | decide | omega) ?_
  refine aw_dup (q := 9) F dS_init_8 rfl trivial ?_
  refine av_callI0 (q := 12) F hm mH_init_i mH_init_n lS_11 dS_init_9 rfl (by omega) (by decide) (by decide) (by decide) (Nat.le_of_ble_eq_true rfl) (wH_init (sO_new σ 2 0 hx) (by show sX σ + 1 + 5 < BG; omega) ?_)
  refine av_puta (q := 15) F fS_12 dS_init_12 rfl rfl wf_5_0 (by repeat' first | exact ha | exact ha2 | apply sO_p | apply sO_n) ?_
  refine aw_aload_0 (q := 16) F dS_init_15 rfl ?_
  refine aw_iconst (q := 17) F dS_init_16 rfl (by decide) ?_
  refine av_newarr (q := 19) (t := 11) F hm dS_init_17 rfl (Or.inr (Or.inl ⟨rfl, rfl⟩)) (by first | (show sX σ < BG; omega) | (show sX σ + 6 < BG; omega) | (show sX σ + 7 < BG; omega)) (by omega) (by omega) (by first | omega | decide) (by first | omega | decide) ?_
  refine av_puta (q := 22) F fS_18 dS_init_19 rfl rfl (wr_5_5 _) (by repeat' first | exact ha | exact ha2 | apply sO_p | apply sO_n) ?_
  refine aw_aload_0 (q := 23) F dS_init_22 rfl ?_
  refine aw_iconst (q := 24) F dS_init_23 rfl (by decide) ?_
  refine av_newarr (q := 26) (t := 12) F hm dS_init_24 rfl (Or.inr (Or.inr ⟨rfl, rfl⟩)) (by first | (show sX σ < BG; omega) | (show sX σ + 6 < BG; omega) | (show sX σ + 7 < BG; omega)) (by omega) (by omega) (by first | omega | decide) (by first | omega | decide) ?_
  refine av_puta (q := 29) F fS_22 dS_init_26 rfl rfl (wr_5_6 _) (by repeat' first | exact ha | exact ha2 | apply sO_p | apply sO_n) ?_
  refine aw_vret F C dS_init_29 rfl (by decide) (by decide) ?_
  exact hK
theorem wR_init (ha : sO σ a 4) (hB : sX σ + 6 < BG) (hK : K none (riV V σ, riS σ a)) : Wp G 0 mR_init [vR a] (V, σ) 6 126 K := by
  have h0 : 0 < a := ha.2.1
  refine wp_intro mR_init_i.1 [some (vR a)] rfl rfl (Nat.le_of_ble_eq_true rfl) ?_
  intro X hG F C
  have hm := C.rm
  refine aw_aload_0 (q := 1) F dR_init_0 rfl ?_
  refine aw_oinit (q := 4) F hm (by first | exact oi_R_3) dR_init_1 rfl (by omega) (Nat.le_of_ble_eq_true rfl) ?_
  refine aw_aload_0 (q := 5) F dR_init_4 rfl ?_
  refine aw_bipush (q := 7) F dR_init_5 rfl (by decide) ?_
  refine av_newarr (q := 9) (t := 11) F hm dR_init_7 rfl (Or.inr (Or.inl ⟨rfl, rfl⟩)) (by first | (show sX σ < BG; omega) | (show sX σ + 1 < BG; omega) | (show sX σ + 2 < BG; omega) | (show sX σ + 3 < BG; omega) | (show sX σ + 4 < BG; omega) | (show sX σ + 5 < BG; omega)) (by omega) (by omega) (by first | omega | decide) (by first | omega | decide) ?_
  refine av_puta (q := 12) F fR_11 dR_init_9 rfl rfl wf_4_1 (by repeat' first | exact ha | apply sO_p | apply sO_n) ?_
  refine aw_aload_0 (q := 13) F dR_init_12 rfl ?_
  refine aw_bipush (q := 15) F dR_init_13 rfl (by decide) ?_
  refine av_newarr (q := 17) (t := 11) F hm dR_init_15 rfl (Or.inr (Or.inl ⟨rfl, rfl⟩)) (by first | (show sX σ < BG; omega) | (show sX σ + 1 < BG; omega) | (show sX σ + 2 < BG; omega) | (show sX σ + 3 < BG; omega) | (show sX σ + 4 < BG; omega) | (show sX σ + 5 < BG; omega)) (by omega) (by omega) (by first | omega | decide) (by first | omega | decide) ?_
  refine av_puta (q := 20) F fR_15 dR_init_17 rfl rfl wf_4_2 (by repeat' first | exact ha | apply sO_p | apply sO_n) ?_
  refine aw_aload_0 (q := 21) F dR_init_20 rfl ?_
  refine aw_bipush (q := 23) F dR_init_21 rfl (by decide) ?_
  refine av_newarr (q := 25) (t := 11) F hm dR_init_23 rfl (Or.inr (Or.inl ⟨rfl, rfl⟩)) (by first | (show sX σ < BG; omega) | (show sX σ + 1 < BG; omega) | (show sX σ + 2 < BG; omega) | (show sX σ + 3 < BG; omega) | (show sX σ + 4 < BG; omega) | (show sX σ + 5 < BG; omega)) (by omega) (by omega) (by first | omega | decide) (by first | omega | decide) ?_
  refine av_puta (q := 28) F fR_18 dR_init_25 rfl rfl wf_4_3 (by repeat' first | exact ha | apply sO_p | apply sO_n) ?_
  refine aw_aload_0 (q := 29) F dR_init_28 rfl ?_
  refine aw_iconst (q := 30) F dR_init_29 rfl (by decide) ?_
  refine av_newarr (q := 32) (t := 11) F hm dR_init_30 rfl (Or.inr (Or.inl ⟨rfl, rfl⟩)) (by first | (show sX σ < BG; omega) | (show sX σ + 1 < BG; omega) | (show sX σ + 2 < BG; omega) | (show sX σ + 3 < BG; omega) | (show sX σ + 4 < BG; omega) | (show sX σ + 5 < BG; omega)) (by omega) (by omega) (by first | omega | decide) (by first | omega | decide) ?_
  refine av_puta (q := 35) F fR_21 dR_init_32 rfl rfl (wr_4_4 _) (by repeat' first | exact ha | apply sO_p | apply sO_n) ?_
  refine aw_aload_0 (q := 36) F dR_init_35 rfl ?_
  refine aw_iconst (q := 37) F dR_init_36 rfl (by decide) ?_
  refine av_newarr (q := 39) (t := 11) F hm dR_init_37 rfl (Or.inr (Or.inl ⟨rfl, rfl⟩)) (by first | (show sX σ < BG; omega) | (show sX σ + 1 < BG; omega) | (show sX σ + 2 < BG; omega) | (show sX σ + 3 < BG; omega) | (show sX σ + 4 < BG; omega) | (show sX σ + 5 < BG; omega)) (by omega) (by omega) (by first | omega | decide) (by first | omega | decide) ?_
  refine av_puta (q := 42) F fR_24 dR_init_39 rfl rfl (wr_4_5 _) (by repeat' first | exact ha | apply sO_p | apply sO_n) ?_
  refine aw_aload_0 (q := 43) F dR_init_42 rfl ?_
  refine aw_iconst (q := 44) F dR_init_43 rfl (by decide) ?_
  refine av_newarr (q := 46) (t := 11) F hm dR_init_44 rfl (Or.inr (Or.inl ⟨rfl, rfl⟩)) (by first | (show sX σ < BG; omega) | (show sX σ + 1 < BG; omega) | (show sX σ + 2 < BG; omega) | (show sX σ + 3 < BG; omega) | (show sX σ + 4 < BG; omega) | (show sX σ + 5 < BG; omega)) (by omega) (by omega) (by first | omega | decide) (by first | omega | decide) ?_
  refine av_puta (q := 49) F fR_27 dR_init_46 rfl rfl (wr_4_6 _) (by repeat' first | exact ha | apply sO_p | apply sO_n) ?_
  refine aw_vret F C dR_init_49 rfl (by decide) (by decide) ?_
  exact hK
theorem wC_init (ha : sO σ a 0) (hB : sX σ + 6 < BG) (hK : K none (ciV V σ, ciS σ a)) : Wp G 1 mC_init [vR a] (V, σ) 6 34 K := by
  have h0 : 0 < a := ha.2.1
  have hx : 0 < sX σ := Nat.lt_of_le_of_lt (Nat.zero_le _) ha.2.2
  have ha2 : sO (hiS (newS σ 2 0) (sX σ)) a 0 := by
    unfold hiS
    repeat' first | exact ha | apply sO_pS | apply sO_n
  refine wp_intro mC_init_i.1 [some (vR a)] rfl rfl (Nat.le_of_ble_eq_true rfl) ?_
  intro X hG F C
  have hm := C.rm
  refine aw_aload_0 (q := 1) F dC_init_0 rfl ?_
  refine aw_oinit (q := 4) F hm (by first | exact oi_C_3) dC_init_1 rfl (by omega) (Nat.le_of_ble_eq_true rfl) ?_
  refine aw_aload_0 (q := 5) F dC_init_4 rfl ?_
  refine av_new (q := 8) (ci := 2) F hm rfl cC_9 dC_init_5 rfl (by show sX σ < BG; omega) (by first | omega | decide) (by first | decide | omega) ?_
  refine aw_dup (q := 9) F dC_init_8 rfl trivial ?_
  refine av_callI0 (q := 12) F hm mH_init_i mH_init_n lC_11 dC_init_9 rfl (by omega) (by decide) (by decide) (by decide) (Nat.le_of_ble_eq_true rfl) (wH_init (sO_new σ 2 0 hx) (by show sX σ + 1 + 5 < BG; omega) ?_)
  refine av_puta (q := 15) F fC_12 dC_init_12 rfl rfl wf_0_0 (by repeat' first | exact ha | exact ha2 | apply sO_p | apply sO_n) ?_
  refine aw_vret F C dC_init_15 rfl (by decide) (by decide) ?_
  exact hK
theorem wU_init (ha : sO σ a 1) (hB : sX σ + 2 < BG) (hK : K none (uiV V σ, uiS σ a)) : Wp G 0 mU_init [vR a] (V, σ) 2 128 K := by
  have h0 : 0 < a := ha.2.1
  refine wp_intro mU_init_i.1 [some (vR a)] rfl rfl (Nat.le_of_ble_eq_true rfl) ?_
  intro X hG F C
  have hm := C.rm
  refine aw_aload_0 (q := 1) F dU_init_0 rfl ?_
  refine aw_oinit (q := 4) F hm (by first | exact oi_U_3) dU_init_1 rfl (by omega) (Nat.le_of_ble_eq_true rfl) ?_
  refine aw_aload_0 (q := 5) F dU_init_4 rfl ?_
  refine aw_bipush (q := 7) F dU_init_5 rfl (by decide) ?_
  refine av_newarr (q := 9) (t := 12) F hm dU_init_7 rfl (Or.inr (Or.inr ⟨rfl, rfl⟩)) (by first | (show sX σ < BG; omega) | (show sX σ + 1 < BG; omega)) (by omega) (by omega) (by first | omega | decide) (by first | omega | decide) ?_
  refine av_puta (q := 12) F fU_9 dU_init_9 rfl rfl (wr_1_3 _) (by repeat' first | exact ha | apply sO_p | apply sO_n) ?_
  refine aw_aload_0 (q := 13) F dU_init_12 rfl ?_
  refine aw_bipush (q := 15) F dU_init_13 rfl (by decide) ?_
  refine av_newarr (q := 17) (t := 12) F hm dU_init_15 rfl (Or.inr (Or.inr ⟨rfl, rfl⟩)) (by first | (show sX σ < BG; omega) | (show sX σ + 1 < BG; omega)) (by omega) (by omega) (by first | omega | decide) (by first | omega | decide) ?_
  refine av_puta (q := 20) F fU_15 dU_init_17 rfl rfl (wr_1_4 _) (by repeat' first | exact ha | apply sO_p | apply sO_n) ?_
  refine aw_vret F C dU_init_20 rfl (by decide) (by decide) ?_
  exact hK
theorem wT_init (ha : sO σ a 6) (hB : sX σ + 6 < BG) (hK : K none (tiV V σ, tiS σ a)) : Wp G 0 mT_init [vR a] (V, σ) 6 16 K := by
  have h0 : 0 < a := ha.2.1
  have hx : 0 < sX σ := Nat.lt_of_le_of_lt (Nat.zero_le _) ha.2.2
  refine wp_intro mT_init_i.1 [some (vR a)] rfl rfl (Nat.le_of_ble_eq_true rfl) ?_
  intro X hG F C
  have hm := C.rm
  refine aw_aload_0 (q := 1) F dT_init_0 rfl ?_
  refine aw_oinit (q := 4) F hm (by first | exact oi_T_3) dT_init_1 rfl (by omega) (Nat.le_of_ble_eq_true rfl) ?_
  refine aw_aload_0 (q := 5) F dT_init_4 rfl ?_
  refine aw_iconst (q := 6) F dT_init_5 rfl (by decide) ?_
  refine av_newarr (q := 8) (t := 11) F hm dT_init_6 rfl (Or.inr (Or.inl ⟨rfl, rfl⟩)) (by first | (show sX σ < BG; omega) | (show sX σ + 1 < BG; omega) | (show sX σ + 2 < BG; omega) | (show sX σ + 3 < BG; omega) | (show sX σ + 4 < BG; omega) | (show sX σ + 5 < BG; omega)) (by omega) (by omega) (by first | omega | decide) (by first | omega | decide) ?_
  refine av_puta (q := 11) F fT_9 dT_init_8 rfl rfl wf_6_6 (by repeat' first | exact ha | apply sO_p | apply sO_n) ?_
  refine aw_aload_0 (q := 12) F dT_init_11 rfl ?_
  refine aw_iconst (q := 13) F dT_init_12 rfl (by decide) ?_
  refine av_newarr (q := 15) (t := 11) F hm dT_init_13 rfl (Or.inr (Or.inl ⟨rfl, rfl⟩)) (by first | (show sX σ < BG; omega) | (show sX σ + 1 < BG; omega) | (show sX σ + 2 < BG; omega) | (show sX σ + 3 < BG; omega) | (show sX σ + 4 < BG; omega) | (show sX σ + 5 < BG; omega)) (by omega) (by omega) (by first | omega | decide) (by first | omega | decide) ?_
  refine av_puta (q := 18) F fT_15 dT_init_15 rfl rfl wf_6_7 (by repeat' first | exact ha | apply sO_p | apply sO_n) ?_
  refine aw_aload_0 (q := 19) F dT_init_18 rfl ?_
  refine aw_iconst (q := 20) F dT_init_19 rfl (by decide) ?_
  refine av_newarr (q := 22) (t := 11) F hm dT_init_20 rfl (Or.inr (Or.inl ⟨rfl, rfl⟩)) (by first | (show sX σ < BG; omega) | (show sX σ + 1 < BG; omega) | (show sX σ + 2 < BG; omega) | (show sX σ + 3 < BG; omega) | (show sX σ + 4 < BG; omega) | (show sX σ + 5 < BG; omega)) (by omega) (by omega) (by first | omega | decide) (by first | omega | decide) ?_
  refine av_puta (q := 25) F fT_18 dT_init_22 rfl rfl wf_6_8 (by repeat' first | exact ha | apply sO_p | apply sO_n) ?_
  refine aw_aload_0 (q := 26) F dT_init_25 rfl ?_
  refine aw_iconst (q := 27) F dT_init_26 rfl (by decide) ?_
  refine av_newarr (q := 29) (t := 11) F hm dT_init_27 rfl (Or.inr (Or.inl ⟨rfl, rfl⟩)) (by first | (show sX σ < BG; omega) | (show sX σ + 1 < BG; omega) | (show sX σ + 2 < BG; omega) | (show sX σ + 3 < BG; omega) | (show sX σ + 4 < BG; omega) | (show sX σ + 5 < BG; omega)) (by omega) (by omega) (by first | omega | decide) (by first | omega | decide) ?_
  refine aw_dup (q := 30) F dT_init_29 rfl trivial ?_
  refine aw_iconst (q := 31) F dT_init_30 rfl (by decide) ?_
  refine aw_bipush (q := 33) F dT_init_31 rfl (by decide) ?_
  refine av_iastore (q := 34) F dT_init_33 rfl (by exact sA_new _ _ _ (by first | (show 0 < sX σ; omega) | (show 0 < sX σ + 3; omega) | (show 0 < sX σ + 4; omega) | (show 0 < sX σ + 5; omega))) (by first | decide) (by first | decide) ?_
  refine aw_dup (q := 35) F dT_init_34 rfl trivial ?_
  refine aw_iconst (q := 36) F dT_init_35 rfl (by decide) ?_
  refine aw_bipush (q := 38) F dT_init_36 rfl (by decide) ?_
  refine av_iastore (q := 39) F dT_init_38 rfl (by exact sA_new _ _ _ (by first | (show 0 < sX σ; omega) | (show 0 < sX σ + 3; omega) | (show 0 < sX σ + 4; omega) | (show 0 < sX σ + 5; omega))) (by first | decide) (by first | decide) ?_
  refine av_puta (q := 42) F fT_21 dT_init_39 rfl rfl wf_6_9 (by repeat' first | exact ha | apply sO_p | apply sO_n) ?_
  refine aw_aload_0 (q := 43) F dT_init_42 rfl ?_
  refine aw_iconst (q := 44) F dT_init_43 rfl (by decide) ?_
  refine av_newarr (q := 46) (t := 11) F hm dT_init_44 rfl (Or.inr (Or.inl ⟨rfl, rfl⟩)) (by first | (show sX σ < BG; omega) | (show sX σ + 1 < BG; omega) | (show sX σ + 2 < BG; omega) | (show sX σ + 3 < BG; omega) | (show sX σ + 4 < BG; omega) | (show sX σ + 5 < BG; omega)) (by omega) (by omega) (by first | omega | decide) (by first | omega | decide) ?_
  refine aw_dup (q := 47) F dT_init_46 rfl trivial ?_
  refine aw_iconst (q := 48) F dT_init_47 rfl (by decide) ?_
  refine aw_bipush (q := 50) F dT_init_48 rfl (by decide) ?_
  refine av_iastore (q := 51) F dT_init_50 rfl (by exact sA_new _ _ _ (by first | (show 0 < sX σ; omega) | (show 0 < sX σ + 3; omega) | (show 0 < sX σ + 4; omega) | (show 0 < sX σ + 5; omega))) (by first | decide) (by first | decide) ?_
  refine aw_dup (q := 52) F dT_init_51 rfl trivial ?_
  refine aw_iconst (q := 53) F dT_init_52 rfl (by decide) ?_
  refine aw_bipush (q := 55) F dT_init_53 rfl (by decide) ?_
  refine av_iastore (q := 56) F dT_init_55 rfl (by exact sA_new _ _ _ (by first | (show 0 < sX σ; omega) | (show 0 < sX σ + 3; omega) | (show 0 < sX σ + 4; omega) | (show 0 < sX σ + 5; omega))) (by first | decide) (by first | decide) ?_
  refine av_puta (q := 59) F fT_24 dT_init_56 rfl rfl wf_6_10 (by repeat' first | exact ha | apply sO_p | apply sO_n) ?_
  refine aw_aload_0 (q := 60) F dT_init_59 rfl ?_
  refine aw_iconst (q := 61) F dT_init_60 rfl (by decide) ?_
  refine av_newarr (q := 63) (t := 11) F hm dT_init_61 rfl (Or.inr (Or.inl ⟨rfl, rfl⟩)) (by first | (show sX σ < BG; omega) | (show sX σ + 1 < BG; omega) | (show sX σ + 2 < BG; omega) | (show sX σ + 3 < BG; omega) | (show sX σ + 4 < BG; omega) | (show sX σ + 5 < BG; omega)) (by omega) (by omega) (by first | omega | decide) (by first | omega | decide) ?_
  refine aw_dup (q := 64) F dT_init_63 rfl trivial ?_
  refine aw_iconst (q := 65) F dT_init_64 rfl (by decide) ?_
  refine aw_bipush (q := 67) F dT_init_65 rfl (by decide) ?_
  refine av_iastore (q := 68) F dT_init_67 rfl (by exact sA_new _ _ _ (by first | (show 0 < sX σ; omega) | (show 0 < sX σ + 3; omega) | (show 0 < sX σ + 4; omega) | (show 0 < sX σ + 5; omega))) (by first | decide) (by first | decide) ?_
  refine aw_dup (q := 69) F dT_init_68 rfl trivial ?_
  refine aw_iconst (q := 70) F dT_init_69 rfl (by decide) ?_
  refine aw_bipush (q := 72) F dT_init_70 rfl (by decide) ?_
  refine av_iastore (q := 73) F dT_init_72 rfl (by exact sA_new _ _ _ (by first | (show 0 < sX σ; omega) | (show 0 < sX σ + 3; omega) | (show 0 < sX σ + 4; omega) | (show 0 < sX σ + 5; omega))) (by first | decide) (by first | decide) ?_
  refine av_puta (q := 76) F fT_27 dT_init_73 rfl rfl wf_6_11 (by repeat' first | exact ha | apply sO_p | apply sO_n) ?_
  refine aw_vret F C dT_init_76 rfl (by decide) (by decide) ?_
  exact hK
end Init
-- the whole object
def liS1 (σ : Shp) (a : Nat) : Shp := pS (tiS (newS (pS (newS σ 10 800) a 0 (sX σ)) 6 0) (sX σ + 1)) a 5 (sX σ + 1)
def liS2 (σ : Shp) (a : Nat) : Shp := pS (hiS (newS (liS1 σ a) 2 0) (sX σ + 8)) a 6 (sX σ + 8)
def liS3 (σ : Shp) (a : Nat) : Shp := pS (newS (pS (newS (liS2 σ a) 11 16) a 7 (sX σ + 14)) 11 3) a 9 (sX σ + 15)
def liS4 (σ : Shp) (a : Nat) : Shp := pS (siS (newS (liS3 σ a) 5 0) (sX σ + 16)) a 11 (sX σ + 16)
def liS5 (σ : Shp) (a : Nat) : Shp := pS (siS (newS (liS4 σ a) 5 0) (sX σ + 25)) a 13 (sX σ + 25)
def liS6 (σ : Shp) (a : Nat) : Shp := pS (riS (newS (liS5 σ a) 4 0) (sX σ + 34)) a 14 (sX σ + 34)
def liS7 (σ : Shp) (a : Nat) : Shp := pS (ciS (newS (liS6 σ a) 0 0) (sX σ + 41)) a 15 (sX σ + 41)
def liS (σ : Shp) (a : Nat) : Shp := pS (uiS (newS (liS7 σ a) 1 0) (sX σ + 48)) a 16 (sX σ + 48)
def liV1 (V : Nat → Nat → Int) (σ : Shp) (a : Nat) : Nat → Nat → Int := tiV (newV (newV V (sX σ)) (sX σ + 1)) (newS (pS (newS σ 10 800) a 0 (sX σ)) 6 0)
def liV2 (V : Nat → Nat → Int) (σ : Shp) (a : Nat) : Nat → Nat → Int := hiV (newV (liV1 V σ a) (sX σ + 8)) (newS (liS1 σ a) 2 0) (sX σ + 8)
def liV3 (V : Nat → Nat → Int) (σ : Shp) (a : Nat) : Nat → Nat → Int := newV (newV (liV2 V σ a) (sX σ + 14)) (sX σ + 15)
def liV4 (V : Nat → Nat → Int) (σ : Shp) (a : Nat) : Nat → Nat → Int := siV (newV (liV3 V σ a) (sX σ + 16)) (newS (liS3 σ a) 5 0)
def liV5 (V : Nat → Nat → Int) (σ : Shp) (a : Nat) : Nat → Nat → Int := siV (newV (up2 (liV4 V σ a) a 12 (-1)) (sX σ + 25)) (newS (liS4 σ a) 5 0)
def liV6 (V : Nat → Nat → Int) (σ : Shp) (a : Nat) : Nat → Nat → Int := riV (newV (liV5 V σ a) (sX σ + 34)) (newS (liS5 σ a) 4 0)
def liV7 (V : Nat → Nat → Int) (σ : Shp) (a : Nat) : Nat → Nat → Int := ciV (newV (liV6 V σ a) (sX σ + 41)) (newS (liS6 σ a) 0 0)
def liV (V : Nat → Nat → Int) (σ : Shp) (a : Nat) : Nat → Nat → Int := uiV (newV (liV7 V σ a) (sX σ + 48)) (newS (liS7 σ a) 1 0)
theorem eS_hi {σ : Shp} {a : Nat} : eS σ (hiS σ a) (fun b _ => b = a) := by
  unfold hiS pS
  exact ((((((((((eS_new σ 11 4 _).tr (eS_put _ a 8 _ rfl)).tr (eS_new _ 11 4 _)).tr (eS_put _ a 14 _ rfl)).tr (eS_new _ 11 2 _)).tr (eS_put _ a 15 _ rfl)).tr (eS_new _ 11 4 _)).tr (eS_put _ a 16 _ rfl)).tr (eS_new _ 11 2 _)).tr (eS_put _ a 17 _ rfl))
theorem eS_si {σ : Shp} {a : Nat} : eS σ (siS σ a) (fun b _ => b = a ∨ b = sX σ) := by
  unfold siS pS
  exact ((((((((eS_new σ 2 0 (fun b _ => b = a ∨ b = sX σ)).tr (eS_hi.mono (fun b j h => Or.inr h))).tr (eS_put _ a 0 _ (Or.inl rfl))).tr (eS_new _ 11 0 _)).tr (eS_put _ a 5 _ (Or.inl rfl))).tr (eS_new _ 12 0 _)).tr (eS_put _ a 6 _ (Or.inl rfl))))
theorem eS_ri {σ : Shp} {a : Nat} : eS σ (riS σ a) (fun b _ => b = a) := by
  unfold riS pS
  exact (((((((((((((eS_new σ 11 7 _).tr (eS_put _ a 1 _ rfl)).tr (eS_new _ 11 112 _)).tr (eS_put _ a 2 _ rfl)).tr (eS_new _ 11 7 _)).tr (eS_put _ a 3 _ rfl)).tr (eS_new _ 11 0 _)).tr (eS_put _ a 4 _ rfl)).tr (eS_new _ 11 0 _)).tr (eS_put _ a 5 _ rfl)).tr (eS_new _ 11 0 _)).tr (eS_put _ a 6 _ rfl)))
theorem eS_ci {σ : Shp} {a : Nat} : eS σ (ciS σ a) (fun b _ => b = a ∨ b = sX σ) := by
  unfold ciS pS
  exact ((eS_new σ 2 0 (fun b _ => b = a ∨ b = sX σ)).tr (eS_hi.mono (fun b j h => Or.inr h))).tr (eS_put _ a 0 _ (Or.inl rfl))
theorem eS_ui {σ : Shp} {a : Nat} : eS σ (uiS σ a) (fun b _ => b = a) := by
  unfold uiS pS
  exact ((((eS_new σ 12 64 _).tr (eS_put _ a 3 _ rfl)).tr (eS_new _ 12 64 _)).tr (eS_put _ a 4 _ rfl))
theorem eS_ti {σ : Shp} {a : Nat} : eS σ (tiS σ a) (fun b _ => b = a) := by
  unfold tiS pS
  exact (((((((((((((eS_new σ 11 4 _).tr (eS_put _ a 6 _ rfl)).tr (eS_new _ 11 4 _)).tr (eS_put _ a 7 _ rfl)).tr (eS_new _ 11 2 _)).tr (eS_put _ a 8 _ rfl)).tr (eS_new _ 11 2 _)).tr (eS_put _ a 9 _ rfl)).tr (eS_new _ 11 2 _)).tr (eS_put _ a 10 _ rfl)).tr (eS_new _ 11 2 _)).tr (eS_put _ a 11 _ rfl)))
section InitL
variable {G : GE} {V : Nat → Nat → Int} {σ : Shp} {K : Option AV → Mem → Prop} {a : Nat}
theorem wL_init (ha : sO σ a 7) (hB : sX σ + 60 < BG) (hK : K none (liV V σ a, liS σ a)) : Wp G 2 mL_init [vR a] (V, σ) 51 1500 K := by
  have h0 : 0 < a := ha.2.1
  have hx : 0 < sX σ := Nat.lt_of_le_of_lt (Nat.zero_le _) ha.2.2
  refine wp_intro mL_init_i.1 [some (vR a)] rfl rfl (Nat.le_of_ble_eq_true rfl) ?_
  intro X hG F C
  have hm := C.rm
  refine aw_aload_0 (q := 1) F dL_init_0 rfl ?_
  refine aw_oinit (q := 4) F hm (by first | exact oi_L_1) dL_init_1 rfl (by omega) (Nat.le_of_ble_eq_true rfl) ?_
  refine aw_aload_0 (q := 5) F dL_init_4 rfl ?_
  refine aw_sipush (q := 8) F dL_init_5 rfl (by decide) ?_
  refine av_newarr (q := 10) (t := 10) F hm dL_init_8 rfl (Or.inl ⟨rfl, rfl⟩) (by first | (show sX σ < BG; omega) | (show sX σ + 1 < BG; omega) | (show sX σ + 8 < BG; omega) | (show sX σ + 14 < BG; omega) | (show sX σ + 15 < BG; omega) | (show sX σ + 16 < BG; omega) | (show sX σ + 25 < BG; omega) | (show sX σ + 34 < BG; omega) | (show sX σ + 41 < BG; omega) | (show sX σ + 48 < BG; omega)) (by omega) (by omega) (by first | omega | decide) (by first | omega | decide) ?_
  refine av_puta (q := 13) F fL_9 dL_init_10 rfl rfl wf_7_0 (by repeat' first | exact ha | apply sO_p | apply sO_n | apply eS_ti.o | apply eS_hi.o | apply eS_si.o | apply eS_ri.o | apply eS_ci.o | apply eS_ui.o) ?_
  refine aw_aload_0 (q := 14) F dL_init_13 rfl ?_
  refine av_new (q := 17) (ci := 6) F hm rfl cL_13 dL_init_14 rfl (by first | (show sX σ < BG; omega) | (show sX σ + 1 < BG; omega) | (show sX σ + 8 < BG; omega) | (show sX σ + 14 < BG; omega) | (show sX σ + 15 < BG; omega) | (show sX σ + 16 < BG; omega) | (show sX σ + 25 < BG; omega) | (show sX σ + 34 < BG; omega) | (show sX σ + 41 < BG; omega) | (show sX σ + 48 < BG; omega)) (by first | omega | decide) (by first | decide | omega) ?_
  refine aw_dup (q := 18) F dL_init_17 rfl trivial ?_
  refine av_callI0 (q := 21) F hm mT_init_i mT_init_n lL_15 dL_init_18 rfl (by exact Nat.succ_pos _) (by decide) (by decide) (by decide) (Nat.le_of_ble_eq_true rfl) (wT_init (sO_new _ 6 0 (Nat.succ_pos _)) (by show sX σ + 1 + 1 + 6 < BG; omega) ?_)
  refine av_puta (q := 24) F fL_16 dL_init_21 rfl rfl (wr_7_5 _) (by repeat' first | exact ha | apply sO_p | apply sO_n | apply eS_ti.o | apply eS_hi.o | apply eS_si.o | apply eS_ri.o | apply eS_ci.o | apply eS_ui.o) ?_
  refine aw_aload_0 (q := 25) F dL_init_24 rfl ?_
  refine av_new (q := 28) (ci := 2) F hm rfl cL_20 dL_init_25 rfl (by first | (show sX σ < BG; omega) | (show sX σ + 1 < BG; omega) | (show sX σ + 8 < BG; omega) | (show sX σ + 14 < BG; omega) | (show sX σ + 15 < BG; omega) | (show sX σ + 16 < BG; omega) | (show sX σ + 25 < BG; omega) | (show sX σ + 34 < BG; omega) | (show sX σ + 41 < BG; omega) | (show sX σ + 48 < BG; omega)) (by first | omega | decide) (by first | decide | omega) ?_
  refine aw_dup (q := 29) F dL_init_28 rfl trivial ?_
  refine av_callI0 (q := 32) F hm mH_init_i mH_init_n lL_22 dL_init_29 rfl (by exact Nat.succ_pos _) (by decide) (by decide) (by decide) (Nat.le_of_ble_eq_true rfl) (wH_init (sO_new _ 2 0 (Nat.succ_pos _)) (by show sX σ + 8 + 1 + 5 < BG; omega) ?_)
  refine av_puta (q := 35) F fL_23 dL_init_32 rfl rfl wf_7_6 (by repeat' first | exact ha | apply sO_p | apply sO_n | apply eS_ti.o | apply eS_hi.o | apply eS_si.o | apply eS_ri.o | apply eS_ci.o | apply eS_ui.o) ?_
  refine aw_aload_0 (q := 36) F dL_init_35 rfl ?_
  refine aw_bipush (q := 38) F dL_init_36 rfl (by decide) ?_
  refine av_newarr (q := 40) (t := 11) F hm dL_init_38 rfl (Or.inr (Or.inl ⟨rfl, rfl⟩)) (by first | (show sX σ < BG; omega) | (show sX σ + 1 < BG; omega) | (show sX σ + 8 < BG; omega) | (show sX σ + 14 < BG; omega) | (show sX σ + 15 < BG; omega) | (show sX σ + 16 < BG; omega) | (show sX σ + 25 < BG; omega) | (show sX σ + 34 < BG; omega) | (show sX σ + 41 < BG; omega) | (show sX σ + 48 < BG; omega)) (by omega) (by omega) (by first | omega | decide) (by first | omega | decide) ?_
  refine av_puta (q := 43) F fL_27 dL_init_40 rfl rfl wf_7_7 (by repeat' first | exact ha | apply sO_p | apply sO_n | apply eS_ti.o | apply eS_hi.o | apply eS_si.o | apply eS_ri.o | apply eS_ci.o | apply eS_ui.o) ?_
  refine aw_aload_0 (q := 44) F dL_init_43 rfl ?_
  refine aw_iconst (q := 45) F dL_init_44 rfl (by decide) ?_
  refine av_newarr (q := 47) (t := 11) F hm dL_init_45 rfl (Or.inr (Or.inl ⟨rfl, rfl⟩)) (by first | (show sX σ < BG; omega) | (show sX σ + 1 < BG; omega) | (show sX σ + 8 < BG; omega) | (show sX σ + 14 < BG; omega) | (show sX σ + 15 < BG; omega) | (show sX σ + 16 < BG; omega) | (show sX σ + 25 < BG; omega) | (show sX σ + 34 < BG; omega) | (show sX σ + 41 < BG; omega) | (show sX σ + 48 < BG; omega)) (by omega) (by omega) (by first | omega | decide) (by first | omega | decide) ?_
  refine av_puta (q := 50) F fL_31 dL_init_47 rfl rfl wf_7_9 (by repeat' first | exact ha | apply sO_p | apply sO_n | apply eS_ti.o | apply eS_hi.o | apply eS_si.o | apply eS_ri.o | apply eS_ci.o | apply eS_ui.o) ?_
  refine aw_aload_0 (q := 51) F dL_init_50 rfl ?_
  refine av_new (q := 54) (ci := 5) F hm rfl cL_34 dL_init_51 rfl (by first | (show sX σ < BG; omega) | (show sX σ + 1 < BG; omega) | (show sX σ + 8 < BG; omega) | (show sX σ + 14 < BG; omega) | (show sX σ + 15 < BG; omega) | (show sX σ + 16 < BG; omega) | (show sX σ + 25 < BG; omega) | (show sX σ + 34 < BG; omega) | (show sX σ + 41 < BG; omega) | (show sX σ + 48 < BG; omega)) (by first | omega | decide) (by first | decide | omega) ?_
  refine aw_dup (q := 55) F dL_init_54 rfl trivial ?_
  refine av_callI0 (q := 58) F hm mS_init_i mS_init_n lL_36 dL_init_55 rfl (by exact Nat.succ_pos _) (by decide) (by decide) (by decide) (Nat.le_of_ble_eq_true rfl) (wS_init (sO_new _ 5 0 (Nat.succ_pos _)) (by show sX σ + 16 + 1 + 8 < BG; omega) ?_)
  refine av_puta (q := 61) F fL_37 dL_init_58 rfl rfl wf_7_11 (by repeat' first | exact ha | apply sO_p | apply sO_n | apply eS_ti.o | apply eS_hi.o | apply eS_si.o | apply eS_ri.o | apply eS_ci.o | apply eS_ui.o) ?_
  refine aw_aload_0 (q := 62) F dL_init_61 rfl ?_
  refine aw_iconst (q := 63) F dL_init_62 rfl (by decide) ?_
  refine av_puti (q := 66) F fL_41 dL_init_63 rfl rfl (wr_7_12 _) (by repeat' first | exact ha | apply sO_p | apply sO_n | apply eS_ti.o | apply eS_hi.o | apply eS_si.o | apply eS_ri.o | apply eS_ci.o | apply eS_ui.o) ?_
  refine aw_aload_0 (q := 67) F dL_init_66 rfl ?_
  refine av_new (q := 70) (ci := 5) F hm rfl cL_34 dL_init_67 rfl (by first | (show sX σ < BG; omega) | (show sX σ + 1 < BG; omega) | (show sX σ + 8 < BG; omega) | (show sX σ + 14 < BG; omega) | (show sX σ + 15 < BG; omega) | (show sX σ + 16 < BG; omega) | (show sX σ + 25 < BG; omega) | (show sX σ + 34 < BG; omega) | (show sX σ + 41 < BG; omega) | (show sX σ + 48 < BG; omega)) (by first | omega | decide) (by first | decide | omega) ?_
  refine aw_dup (q := 71) F dL_init_70 rfl trivial ?_
  refine av_callI0 (q := 74) F hm mS_init_i mS_init_n lL_36 dL_init_71 rfl (by exact Nat.succ_pos _) (by decide) (by decide) (by decide) (Nat.le_of_ble_eq_true rfl) (wS_init (sO_new _ 5 0 (Nat.succ_pos _)) (by show sX σ + 25 + 1 + 8 < BG; omega) ?_)
  refine av_puta (q := 77) F fL_45 dL_init_74 rfl rfl wf_7_13 (by repeat' first | exact ha | apply sO_p | apply sO_n | apply eS_ti.o | apply eS_hi.o | apply eS_si.o | apply eS_ri.o | apply eS_ci.o | apply eS_ui.o) ?_
  refine aw_aload_0 (q := 78) F dL_init_77 rfl ?_
  refine av_new (q := 81) (ci := 4) F hm rfl cL_48 dL_init_78 rfl (by first | (show sX σ < BG; omega) | (show sX σ + 1 < BG; omega) | (show sX σ + 8 < BG; omega) | (show sX σ + 14 < BG; omega) | (show sX σ + 15 < BG; omega) | (show sX σ + 16 < BG; omega) | (show sX σ + 25 < BG; omega) | (show sX σ + 34 < BG; omega) | (show sX σ + 41 < BG; omega) | (show sX σ + 48 < BG; omega)) (by first | omega | decide) (by first | decide | omega) ?_
  refine aw_dup (q := 82) F dL_init_81 rfl trivial ?_
  refine av_callI0 (q := 85) F hm mR_init_i mR_init_n lL_50 dL_init_82 rfl (by exact Nat.succ_pos _) (by decide) (by decide) (by decide) (Nat.le_of_ble_eq_true rfl) (wR_init (sO_new _ 4 0 (Nat.succ_pos _)) (by show sX σ + 34 + 1 + 6 < BG; omega) ?_)
  refine av_puta (q := 88) F fL_51 dL_init_85 rfl rfl wf_7_14 (by repeat' first | exact ha | apply sO_p | apply sO_n | apply eS_ti.o | apply eS_hi.o | apply eS_si.o | apply eS_ri.o | apply eS_ci.o | apply eS_ui.o) ?_
  refine aw_aload_0 (q := 89) F dL_init_88 rfl ?_
  refine av_new (q := 92) (ci := 0) F hm rfl cL_55 dL_init_89 rfl (by first | (show sX σ < BG; omega) | (show sX σ + 1 < BG; omega) | (show sX σ + 8 < BG; omega) | (show sX σ + 14 < BG; omega) | (show sX σ + 15 < BG; omega) | (show sX σ + 16 < BG; omega) | (show sX σ + 25 < BG; omega) | (show sX σ + 34 < BG; omega) | (show sX σ + 41 < BG; omega) | (show sX σ + 48 < BG; omega)) (by first | omega | decide) (by first | decide | omega) ?_
  refine aw_dup (q := 93) F dL_init_92 rfl trivial ?_
  refine av_callI0 (q := 96) F hm mC_init_i mC_init_n lL_57 dL_init_93 rfl (by exact Nat.succ_pos _) (by decide) (by decide) (by decide) (Nat.le_of_ble_eq_true rfl) (wC_init (sO_new _ 0 0 (Nat.succ_pos _)) (by show sX σ + 41 + 1 + 6 < BG; omega) ?_)
  refine av_puta (q := 99) F fL_58 dL_init_96 rfl rfl wf_7_15 (by repeat' first | exact ha | apply sO_p | apply sO_n | apply eS_ti.o | apply eS_hi.o | apply eS_si.o | apply eS_ri.o | apply eS_ci.o | apply eS_ui.o) ?_
  refine aw_aload_0 (q := 100) F dL_init_99 rfl ?_
  refine av_new (q := 103) (ci := 1) F hm rfl cL_62 dL_init_100 rfl (by first | (show sX σ < BG; omega) | (show sX σ + 1 < BG; omega) | (show sX σ + 8 < BG; omega) | (show sX σ + 14 < BG; omega) | (show sX σ + 15 < BG; omega) | (show sX σ + 16 < BG; omega) | (show sX σ + 25 < BG; omega) | (show sX σ + 34 < BG; omega) | (show sX σ + 41 < BG; omega) | (show sX σ + 48 < BG; omega)) (by first | omega | decide) (by first | decide | omega) ?_
  refine aw_dup (q := 104) F dL_init_103 rfl trivial ?_
  refine av_callI0 (q := 107) F hm mU_init_i mU_init_n lL_64 dL_init_104 rfl (by exact Nat.succ_pos _) (by decide) (by decide) (by decide) (Nat.le_of_ble_eq_true rfl) (wU_init (sO_new _ 1 0 (Nat.succ_pos _)) (by show sX σ + 48 + 1 + 2 < BG; omega) ?_)
  refine av_puta (q := 110) F fL_65 dL_init_107 rfl rfl wf_7_16 (by repeat' first | exact ha | apply sO_p | apply sO_n | apply eS_ti.o | apply eS_hi.o | apply eS_si.o | apply eS_ri.o | apply eS_ci.o | apply eS_ui.o) ?_
  refine aw_vret F C dL_init_110 rfl (by decide) (by decide) ?_
  exact hK
end InitL
