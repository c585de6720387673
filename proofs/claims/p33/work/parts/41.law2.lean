theorem lc_16 {K : zc_K} {G : zc_X} {Z : zl_T} (hG : zl_G K G Z) {σX σM : zc_S} {i : Int32} {ni : Nat} (hi : i.toInt = (ni : Int)) (h9 : ni + 9 ≤ zt_L Z) (hv : zl_v σX σM) (kk : ∀ σX' σM', zl_v σX' σM' → zc_V 4 K G (zl_I K G Z σX' σM') [(3, .int i), (2, .ref (zt_M Z 0)), (1, .ref (zt_X Z 0)), (0, .ref (zt_b Z))] 1780 []) : zc_V 4 K G (zl_I K G Z σX σM) [(3, .int i), (2, .ref (zt_M Z 0)), (1, .ref (zt_X Z 0)), (0, .ref (zt_b Z))] 926 [] := by
  obtain ⟨hOX, hOM, hT, hN, hL, hF, hD, hSL, hSN, hSC, hW, hBY, hFA, hE, hK, hNT⟩ := hv
  have hB := hG.1
  have hZ := hG.2.2.2.2.2.2.1
  refine zr_aload_n hB 2 dL_law_926 rfl ?_
  refine zr_aload_n hB 3 dL_law_927 rfl ?_
  refine zr_iload_n hB 0 dL_law_928 rfl ?_
  refine zr_iconst hB dL_law_929 rfl (fun z1 hz1 => ?_)
  refine zr_iadd hB dL_law_930 (by omega) (by omega) (fun z2 hz2 => ?_)
  refine zl_sld hG (ni + 1) dL_law_931 (by omega) (by omega) ?_
  clear hz1 hz2
  refine zr_aload_n hB 3 dL_law_932 rfl ?_
  refine zr_iload_n hB 0 dL_law_933 rfl ?_
  refine zr_iconst hB dL_law_934 rfl (fun z3 hz3 => ?_)
  refine zr_iadd hB dL_law_935 (by omega) (by omega) (fun z4 hz4 => ?_)
  refine zl_sld hG (ni + 2) dL_law_936 (by omega) (by omega) ?_
  clear hz3 hz4
  refine zr_aload_n hB 3 dL_law_937 rfl ?_
  refine zr_iload_n hB 0 dL_law_938 rfl ?_
  refine zr_iconst hB dL_law_939 rfl (fun z5 hz5 => ?_)
  refine zr_iadd hB dL_law_940 (by omega) (by omega) (fun z6 hz6 => ?_)
  refine zl_sld hG (ni + 3) dL_law_941 (by omega) (by omega) ?_
  clear hz5 hz6
  refine zr_aload_n hB 3 dL_law_942 rfl ?_
  refine zr_iload_n hB 0 dL_law_943 rfl ?_
  refine zr_iconst hB dL_law_944 rfl (fun z7 hz7 => ?_)
  refine zr_iadd hB dL_law_945 (by omega) (by omega) (fun z8 hz8 => ?_)
  refine zl_sld hG (ni + 4) dL_law_946 (by omega) (by omega) ?_
  clear hz7 hz8
  refine zr_aload_n hB 3 dL_law_947 rfl ?_
  refine zr_iload_n hB 0 dL_law_948 rfl ?_
  refine zr_iconst hB dL_law_949 rfl (fun z9 hz9 => ?_)
  refine zr_iadd hB dL_law_950 (by omega) (by omega) (fun z10 hz10 => ?_)
  refine zl_sld hG (ni + 5) dL_law_951 (by omega) (by omega) ?_
  clear hz9 hz10
  refine zr_aload_n hB 3 dL_law_952 rfl ?_
  refine zr_iload_n hB 0 dL_law_953 rfl ?_
  refine zr_bipush hB dL_law_954 rfl (fun z11 hz11 => ?_)
  refine zr_iadd hB dL_law_956 (by omega) (by omega) (fun z12 hz12 => ?_)
  refine zl_sld hG (ni + 6) dL_law_957 (by omega) (by omega) ?_
  clear hz11 hz12
  refine zl_callX hG (As := [.int (zt_x Z (ni + 1)), .int (zt_x Z (ni + 2)), .int (zt_x Z (ni + 3)), .int (zt_x Z (ni + 4)), .int (zt_x Z (ni + 5)), .int (zt_x Z (ni + 6))]) (rest := []) dL_law_958 wm_L_88 rfl (c_X8_hold_0 (zl_K K (zt_X Z)) hG.2.2.2.2.2.2.2.2.2.1 σX (zt_x Z (ni + 1)) (zt_x Z (ni + 2)) (zt_x Z (ni + 3)) (zt_x Z (ni + 4)) (zt_x Z (ni + 5)) (zt_x Z (ni + 6)) hOX ) rfl rfl (Nat.le_of_ble_eq_true rfl) ⟨(Nat.le_of_ble_eq_true rfl), (Nat.le_of_ble_eq_true rfl), rfl, rfl⟩ (fun r13 σ14 h15 => ?_)
  obtain ⟨hO16, hA17⟩ := h15
  have hN18 : (σ14.1 1 0).toInt = (σM.1 0 1).toInt := by rw [(hA17 1 0 rfl).1]; exact hN
  have hL19 : (σ14.1 2 1).toInt = (σM.1 0 6).toInt := by rw [(hA17 2 1 rfl).1]; exact hL
  have hF20 : ∀ j : Nat, (σ14.1 15 j).toInt = (σM.1 2 j).toInt := fun j => by rw [(hA17 15 j rfl).1]; exact hF j
  have hD21 : ∀ j : Nat, (σ14.1 16 j).toInt = (σM.1 3 j).toInt := fun j => by rw [(hA17 16 j rfl).1]; exact hD j
  have hSL22 : ∀ j : Nat, zl_R (σ14.1 37 j) (σM.1 24 j) := fun j => by rw [(hA17 37 j rfl).1]; exact hSL j
  have hSN23 : ∀ j : Nat, (σ14.1 38 j).toInt = (σM.1 25 j).toInt := fun j => by rw [(hA17 38 j rfl).1]; exact hSN j
  have hSC24 : zl_SC σ14 σM := hSC.x hA17 (fun _ => rfl) (fun _ => rfl)
  have hW25 : zl_W σ14 σM := hW.x hA17 rfl (fun _ => rfl) (fun _ => rfl) (fun _ => rfl) (fun _ => rfl)
  have hBY26 : zl_B σ14 σM := hBY.x hA17 rfl (fun _ => rfl)
  have hFA27 : (σ14.1 2 3).toInt = (σM.1 0 7).toInt := by rw [(hA17 2 3 rfl).1]; exact hFA
  have hE28 : zl_E σ14 σM := hE.x hA17 rfl (fun _ => rfl) (fun _ => rfl) (fun _ => rfl)
  have hK29 : zw_K σM := hK
  have hNT30 : zl_N σ14 σM := hNT.x hA17 rfl (fun _ => rfl) (fun _ => rfl) (fun _ => rfl)
  refine zr_pop hB dL_law_961 rfl ?_
  refine zr_aload_n hB 1 dL_law_962 rfl ?_
  refine zr_aload_n hB 3 dL_law_963 rfl ?_
  refine zr_iload_n hB 0 dL_law_964 rfl ?_
  refine zr_iconst hB dL_law_965 rfl (fun z31 hz31 => ?_)
  refine zr_iadd hB dL_law_966 (by omega) (by omega) (fun z32 hz32 => ?_)
  refine zl_sld hG (ni + 1) dL_law_967 (by omega) (by omega) ?_
  clear hz31 hz32
  refine zr_aload_n hB 3 dL_law_968 rfl ?_
  refine zr_iload_n hB 0 dL_law_969 rfl ?_
  refine zr_iconst hB dL_law_970 rfl (fun z33 hz33 => ?_)
  refine zr_iadd hB dL_law_971 (by omega) (by omega) (fun z34 hz34 => ?_)
  refine zl_sld hG (ni + 2) dL_law_972 (by omega) (by omega) ?_
  clear hz33 hz34
  refine zr_aload_n hB 3 dL_law_973 rfl ?_
  refine zr_iload_n hB 0 dL_law_974 rfl ?_
  refine zr_iconst hB dL_law_975 rfl (fun z35 hz35 => ?_)
  refine zr_iadd hB dL_law_976 (by omega) (by omega) (fun z36 hz36 => ?_)
  refine zl_sld hG (ni + 3) dL_law_977 (by omega) (by omega) ?_
  clear hz35 hz36
  refine zr_aload_n hB 3 dL_law_978 rfl ?_
  refine zr_iload_n hB 0 dL_law_979 rfl ?_
  refine zr_iconst hB dL_law_980 rfl (fun z37 hz37 => ?_)
  refine zr_iadd hB dL_law_981 (by omega) (by omega) (fun z38 hz38 => ?_)
  refine zl_sld hG (ni + 4) dL_law_982 (by omega) (by omega) ?_
  clear hz37 hz38
  refine zr_aload_n hB 3 dL_law_983 rfl ?_
  refine zr_iload_n hB 0 dL_law_984 rfl ?_
  refine zr_iconst hB dL_law_985 rfl (fun z39 hz39 => ?_)
  refine zr_iadd hB dL_law_986 (by omega) (by omega) (fun z40 hz40 => ?_)
  refine zl_sld hG (ni + 5) dL_law_987 (by omega) (by omega) ?_
  clear hz39 hz40
  refine zr_aload_n hB 3 dL_law_988 rfl ?_
  refine zr_iload_n hB 0 dL_law_989 rfl ?_
  refine zr_bipush hB dL_law_990 rfl (fun z41 hz41 => ?_)
  refine zr_iadd hB dL_law_992 (by omega) (by omega) (fun z42 hz42 => ?_)
  refine zl_sld hG (ni + 6) dL_law_993 (by omega) (by omega) ?_
  clear hz41 hz42
  refine zl_callM hG (As := [.int (zt_x Z (ni + 1)), .int (zt_x Z (ni + 2)), .int (zt_x Z (ni + 3)), .int (zt_x Z (ni + 4)), .int (zt_x Z (ni + 5)), .int (zt_x Z (ni + 6))]) (rest := []) dL_law_994 wm_L_91 rfl (c_M_hold (zl_K K (zt_M Z)) hG.2.2.2.2.2.2.2.2.2.2.1 σM (zt_x Z (ni + 1)) (zt_x Z (ni + 2)) (zt_x Z (ni + 3)) (zt_x Z (ni + 4)) (zt_x Z (ni + 5)) (zt_x Z (ni + 6)) hOM hT) rfl rfl (Nat.le_of_ble_eq_true rfl) ⟨(Nat.le_of_ble_eq_true rfl), (Nat.le_of_ble_eq_true rfl), rfl, rfl⟩ (fun r43 σ44 h45 => ?_)
  obtain ⟨hO46, hA47⟩ := h45
  have hT48 := zm_T.ag hT hA47 rfl (fun _ => rfl) (fun _ => rfl)
  have hN49 : (σ14.1 1 0).toInt = (σ44.1 0 1).toInt := by rw [(hA47 0 1 rfl).1]; exact hN18
  have hL50 : (σ14.1 2 1).toInt = (σ44.1 0 6).toInt := by rw [(hA47 0 6 rfl).1]; exact hL19
  have hF51 : ∀ j : Nat, (σ14.1 15 j).toInt = (σ44.1 2 j).toInt := fun j => by rw [(hA47 2 j rfl).1]; exact hF20 j
  have hD52 : ∀ j : Nat, (σ14.1 16 j).toInt = (σ44.1 3 j).toInt := fun j => by rw [(hA47 3 j rfl).1]; exact hD21 j
  have hSL53 : ∀ j : Nat, zl_R (σ14.1 37 j) (σ44.1 24 j) := fun j => by rw [(hA47 24 j rfl).1]; exact hSL22 j
  have hSN54 : ∀ j : Nat, (σ14.1 38 j).toInt = (σ44.1 25 j).toInt := fun j => by rw [(hA47 25 j rfl).1]; exact hSN23 j
  have hSC55 : zl_SC σ14 σ44 := hSC24.m hA47 (fun _ => rfl)
  have hW56 : zl_W σ14 σ44 := hW25.m hA47 (fun _ => rfl) rfl
  have hBY57 : zl_B σ14 σ44 := hBY26.m hA47 (fun _ => rfl)
  have hFA58 : (σ14.1 2 3).toInt = (σ44.1 0 7).toInt := by rw [(hA47 0 7 rfl).1]; exact hFA27
  have hE59 : zl_E σ14 σ44 := hE28.m hA47 rfl (fun _ => rfl) (fun _ => rfl) (fun _ => rfl)
  have hK60 : zw_K σ44 := zw_K.ag hK29 hA47 rfl (fun _ => rfl) (fun _ => rfl)
  have hNT61 : zl_N σ14 σ44 := hNT30.m hA47 rfl (fun _ => rfl) (fun _ => rfl) (fun _ => rfl)
  refine zr_pop hB dL_law_997 rfl ?_
  refine zr_goto hB dL_law_998 (tgt := 1780) rfl ?_
  exact kk _ _ ⟨hO16, hO46, hT48, hN49, hL50, hF51, hD52, hSL53, hSN54, hSC55, hW56, hBY57, hFA58, hE59, hK60, hNT61⟩

theorem lc_17 {K : zc_K} {G : zc_X} {Z : zl_T} (hG : zl_G K G Z) {σX σM : zc_S} {i : Int32} {ni : Nat} (hi : i.toInt = (ni : Int)) (h9 : ni + 9 ≤ zt_L Z) (hv : zl_v σX σM) (kk : ∀ σX' σM', zl_v σX' σM' → zc_V 4 K G (zl_I K G Z σX' σM') [(3, .int i), (2, .ref (zt_M Z 0)), (1, .ref (zt_X Z 0)), (0, .ref (zt_b Z))] 1780 []) : zc_V 4 K G (zl_I K G Z σX σM) [(3, .int i), (2, .ref (zt_M Z 0)), (1, .ref (zt_X Z 0)), (0, .ref (zt_b Z))] 1001 [] := by
  obtain ⟨hOX, hOM, hT, hN, hL, hF, hD, hSL, hSN, hSC, hW, hBY, hFA, hE, hK, hNT⟩ := hv
  have hB := hG.1
  have hZ := hG.2.2.2.2.2.2.1
  refine zr_aload_n hB 2 dL_law_1001 rfl ?_
  refine zr_aload_n hB 3 dL_law_1002 rfl ?_
  refine zr_iload_n hB 0 dL_law_1003 rfl ?_
  refine zr_iconst hB dL_law_1004 rfl (fun z1 hz1 => ?_)
  refine zr_iadd hB dL_law_1005 (by omega) (by omega) (fun z2 hz2 => ?_)
  refine zl_sld hG (ni + 1) dL_law_1006 (by omega) (by omega) ?_
  clear hz1 hz2
  refine zr_aload_n hB 3 dL_law_1007 rfl ?_
  refine zr_iload_n hB 0 dL_law_1008 rfl ?_
  refine zr_iconst hB dL_law_1009 rfl (fun z3 hz3 => ?_)
  refine zr_iadd hB dL_law_1010 (by omega) (by omega) (fun z4 hz4 => ?_)
  refine zl_sld hG (ni + 2) dL_law_1011 (by omega) (by omega) ?_
  clear hz3 hz4
  refine zr_aload_n hB 3 dL_law_1012 rfl ?_
  refine zr_iload_n hB 0 dL_law_1013 rfl ?_
  refine zr_iconst hB dL_law_1014 rfl (fun z5 hz5 => ?_)
  refine zr_iadd hB dL_law_1015 (by omega) (by omega) (fun z6 hz6 => ?_)
  refine zl_sld hG (ni + 3) dL_law_1016 (by omega) (by omega) ?_
  clear hz5 hz6
  refine zr_aload_n hB 3 dL_law_1017 rfl ?_
  refine zr_iload_n hB 0 dL_law_1018 rfl ?_
  refine zr_iconst hB dL_law_1019 rfl (fun z7 hz7 => ?_)
  refine zr_iadd hB dL_law_1020 (by omega) (by omega) (fun z8 hz8 => ?_)
  refine zl_sld hG (ni + 4) dL_law_1021 (by omega) (by omega) ?_
  clear hz7 hz8
  refine zr_aload_n hB 3 dL_law_1022 rfl ?_
  refine zr_iload_n hB 0 dL_law_1023 rfl ?_
  refine zr_iconst hB dL_law_1024 rfl (fun z9 hz9 => ?_)
  refine zr_iadd hB dL_law_1025 (by omega) (by omega) (fun z10 hz10 => ?_)
  refine zl_sld hG (ni + 5) dL_law_1026 (by omega) (by omega) ?_
  clear hz9 hz10
  refine zr_aload_n hB 3 dL_law_1027 rfl ?_
  refine zr_iload_n hB 0 dL_law_1028 rfl ?_
  refine zr_bipush hB dL_law_1029 rfl (fun z11 hz11 => ?_)
  refine zr_iadd hB dL_law_1031 (by omega) (by omega) (fun z12 hz12 => ?_)
  refine zl_sld hG (ni + 6) dL_law_1032 (by omega) (by omega) ?_
  clear hz11 hz12
  refine zr_aload_n hB 3 dL_law_1033 rfl ?_
  refine zr_iload_n hB 0 dL_law_1034 rfl ?_
  refine zr_bipush hB dL_law_1035 rfl (fun z13 hz13 => ?_)
  refine zr_iadd hB dL_law_1037 (by omega) (by omega) (fun z14 hz14 => ?_)
  refine zl_sld hG (ni + 7) dL_law_1038 (by omega) (by omega) ?_
  clear hz13 hz14
  refine zl_callX hG (As := [.int (zt_x Z (ni + 1)), .int (zt_x Z (ni + 2)), .int (zt_x Z (ni + 3)), .int (zt_x Z (ni + 4)), .int (zt_x Z (ni + 5)), .int (zt_x Z (ni + 6)), .int (zt_x Z (ni + 7))]) (rest := []) dL_law_1039 wm_L_92 rfl (c_X8_going_0 (zl_K K (zt_X Z)) hG.2.2.2.2.2.2.2.2.2.1 σX (zt_x Z (ni + 1)) (zt_x Z (ni + 2)) (zt_x Z (ni + 3)) (zt_x Z (ni + 4)) (zt_x Z (ni + 5)) (zt_x Z (ni + 6)) (zt_x Z (ni + 7)) hOX ) rfl rfl (Nat.le_of_ble_eq_true rfl) ⟨(Nat.le_of_ble_eq_true rfl), (Nat.le_of_ble_eq_true rfl), rfl, rfl⟩ (fun r15 σ16 h17 => ?_)
  obtain ⟨hO18, hA19⟩ := h17
  have hN20 : (σ16.1 1 0).toInt = (σM.1 0 1).toInt := by rw [(hA19 1 0 rfl).1]; exact hN
  have hL21 : (σ16.1 2 1).toInt = (σM.1 0 6).toInt := by rw [(hA19 2 1 rfl).1]; exact hL
  have hF22 : ∀ j : Nat, (σ16.1 15 j).toInt = (σM.1 2 j).toInt := fun j => by rw [(hA19 15 j rfl).1]; exact hF j
  have hD23 : ∀ j : Nat, (σ16.1 16 j).toInt = (σM.1 3 j).toInt := fun j => by rw [(hA19 16 j rfl).1]; exact hD j
  have hSL24 : ∀ j : Nat, zl_R (σ16.1 37 j) (σM.1 24 j) := fun j => by rw [(hA19 37 j rfl).1]; exact hSL j
  have hSN25 : ∀ j : Nat, (σ16.1 38 j).toInt = (σM.1 25 j).toInt := fun j => by rw [(hA19 38 j rfl).1]; exact hSN j
  have hSC26 : zl_SC σ16 σM := hSC.x hA19 (fun _ => rfl) (fun _ => rfl)
  have hW27 : zl_W σ16 σM := hW.x hA19 rfl (fun _ => rfl) (fun _ => rfl) (fun _ => rfl) (fun _ => rfl)
  have hBY28 : zl_B σ16 σM := hBY.x hA19 rfl (fun _ => rfl)
  have hFA29 : (σ16.1 2 3).toInt = (σM.1 0 7).toInt := by rw [(hA19 2 3 rfl).1]; exact hFA
  have hE30 : zl_E σ16 σM := hE.x hA19 rfl (fun _ => rfl) (fun _ => rfl) (fun _ => rfl)
  have hK31 : zw_K σM := hK
  have hNT32 : zl_N σ16 σM := hNT.x hA19 rfl (fun _ => rfl) (fun _ => rfl) (fun _ => rfl)
  refine zr_pop hB dL_law_1042 rfl ?_
  refine zr_aload_n hB 1 dL_law_1043 rfl ?_
  refine zr_aload_n hB 3 dL_law_1044 rfl ?_
  refine zr_iload_n hB 0 dL_law_1045 rfl ?_
  refine zr_iconst hB dL_law_1046 rfl (fun z33 hz33 => ?_)
  refine zr_iadd hB dL_law_1047 (by omega) (by omega) (fun z34 hz34 => ?_)
  refine zl_sld hG (ni + 1) dL_law_1048 (by omega) (by omega) ?_
  clear hz33 hz34
  refine zr_aload_n hB 3 dL_law_1049 rfl ?_
  refine zr_iload_n hB 0 dL_law_1050 rfl ?_
  refine zr_iconst hB dL_law_1051 rfl (fun z35 hz35 => ?_)
  refine zr_iadd hB dL_law_1052 (by omega) (by omega) (fun z36 hz36 => ?_)
  refine zl_sld hG (ni + 2) dL_law_1053 (by omega) (by omega) ?_
  clear hz35 hz36
  refine zr_aload_n hB 3 dL_law_1054 rfl ?_
  refine zr_iload_n hB 0 dL_law_1055 rfl ?_
  refine zr_iconst hB dL_law_1056 rfl (fun z37 hz37 => ?_)
  refine zr_iadd hB dL_law_1057 (by omega) (by omega) (fun z38 hz38 => ?_)
  refine zl_sld hG (ni + 3) dL_law_1058 (by omega) (by omega) ?_
  clear hz37 hz38
  refine zr_aload_n hB 3 dL_law_1059 rfl ?_
  refine zr_iload_n hB 0 dL_law_1060 rfl ?_
  refine zr_iconst hB dL_law_1061 rfl (fun z39 hz39 => ?_)
  refine zr_iadd hB dL_law_1062 (by omega) (by omega) (fun z40 hz40 => ?_)
  refine zl_sld hG (ni + 4) dL_law_1063 (by omega) (by omega) ?_
  clear hz39 hz40
  refine zr_aload_n hB 3 dL_law_1064 rfl ?_
  refine zr_iload_n hB 0 dL_law_1065 rfl ?_
  refine zr_iconst hB dL_law_1066 rfl (fun z41 hz41 => ?_)
  refine zr_iadd hB dL_law_1067 (by omega) (by omega) (fun z42 hz42 => ?_)
  refine zl_sld hG (ni + 5) dL_law_1068 (by omega) (by omega) ?_
  clear hz41 hz42
  refine zr_aload_n hB 3 dL_law_1069 rfl ?_
  refine zr_iload_n hB 0 dL_law_1070 rfl ?_
  refine zr_bipush hB dL_law_1071 rfl (fun z43 hz43 => ?_)
  refine zr_iadd hB dL_law_1073 (by omega) (by omega) (fun z44 hz44 => ?_)
  refine zl_sld hG (ni + 6) dL_law_1074 (by omega) (by omega) ?_
  clear hz43 hz44
  refine zr_aload_n hB 3 dL_law_1075 rfl ?_
  refine zr_iload_n hB 0 dL_law_1076 rfl ?_
  refine zr_bipush hB dL_law_1077 rfl (fun z45 hz45 => ?_)
  refine zr_iadd hB dL_law_1079 (by omega) (by omega) (fun z46 hz46 => ?_)
  refine zl_sld hG (ni + 7) dL_law_1080 (by omega) (by omega) ?_
  clear hz45 hz46
  refine zl_callM hG (As := [.int (zt_x Z (ni + 1)), .int (zt_x Z (ni + 2)), .int (zt_x Z (ni + 3)), .int (zt_x Z (ni + 4)), .int (zt_x Z (ni + 5)), .int (zt_x Z (ni + 6)), .int (zt_x Z (ni + 7))]) (rest := []) dL_law_1081 wm_L_96 rfl (c_M_going (zl_K K (zt_M Z)) hG.2.2.2.2.2.2.2.2.2.2.1 σM (zt_x Z (ni + 1)) (zt_x Z (ni + 2)) (zt_x Z (ni + 3)) (zt_x Z (ni + 4)) (zt_x Z (ni + 5)) (zt_x Z (ni + 6)) (zt_x Z (ni + 7)) hOM hT) rfl rfl (Nat.le_of_ble_eq_true rfl) ⟨(Nat.le_of_ble_eq_true rfl), (Nat.le_of_ble_eq_true rfl), rfl, rfl⟩ (fun r47 σ48 h49 => ?_)
  obtain ⟨hO50, hA51⟩ := h49
  have hT52 := zm_T.ag hT hA51 rfl (fun _ => rfl) (fun _ => rfl)
  have hN53 : (σ16.1 1 0).toInt = (σ48.1 0 1).toInt := by rw [(hA51 0 1 rfl).1]; exact hN20
  have hL54 : (σ16.1 2 1).toInt = (σ48.1 0 6).toInt := by rw [(hA51 0 6 rfl).1]; exact hL21
  have hF55 : ∀ j : Nat, (σ16.1 15 j).toInt = (σ48.1 2 j).toInt := fun j => by rw [(hA51 2 j rfl).1]; exact hF22 j
  have hD56 : ∀ j : Nat, (σ16.1 16 j).toInt = (σ48.1 3 j).toInt := fun j => by rw [(hA51 3 j rfl).1]; exact hD23 j
  have hSL57 : ∀ j : Nat, zl_R (σ16.1 37 j) (σ48.1 24 j) := fun j => by rw [(hA51 24 j rfl).1]; exact hSL24 j
  have hSN58 : ∀ j : Nat, (σ16.1 38 j).toInt = (σ48.1 25 j).toInt := fun j => by rw [(hA51 25 j rfl).1]; exact hSN25 j
  have hSC59 : zl_SC σ16 σ48 := hSC26.m hA51 (fun _ => rfl)
  have hW60 : zl_W σ16 σ48 := hW27.m hA51 (fun _ => rfl) rfl
  have hBY61 : zl_B σ16 σ48 := hBY28.m hA51 (fun _ => rfl)
  have hFA62 : (σ16.1 2 3).toInt = (σ48.1 0 7).toInt := by rw [(hA51 0 7 rfl).1]; exact hFA29
  have hE63 : zl_E σ16 σ48 := hE30.m hA51 rfl (fun _ => rfl) (fun _ => rfl) (fun _ => rfl)
  have hK64 : zw_K σ48 := zw_K.ag hK31 hA51 rfl (fun _ => rfl) (fun _ => rfl)
  have hNT65 : zl_N σ16 σ48 := hNT32.m hA51 rfl (fun _ => rfl) (fun _ => rfl) (fun _ => rfl)
  refine zr_pop hB dL_law_1084 rfl ?_
  refine zr_goto hB dL_law_1085 (tgt := 1780) rfl ?_
  exact kk _ _ ⟨hO18, hO50, hT52, hN53, hL54, hF55, hD56, hSL57, hSN58, hSC59, hW60, hBY61, hFA62, hE63, hK64, hNT65⟩

theorem lc_18 {K : zc_K} {G : zc_X} {Z : zl_T} (hG : zl_G K G Z) {σX σM : zc_S} {i : Int32} {ni : Nat} (hi : i.toInt = (ni : Int)) (h9 : ni + 9 ≤ zt_L Z) (hv : zl_v σX σM) (kk : ∀ σX' σM', zl_v σX' σM' → zc_V 4 K G (zl_I K G Z σX' σM') [(3, .int i), (2, .ref (zt_M Z 0)), (1, .ref (zt_X Z 0)), (0, .ref (zt_b Z))] 1780 []) : zc_V 4 K G (zl_I K G Z σX σM) [(3, .int i), (2, .ref (zt_M Z 0)), (1, .ref (zt_X Z 0)), (0, .ref (zt_b Z))] 1088 [] := by
  obtain ⟨hOX, hOM, hT, hN, hL, hF, hD, hSL, hSN, hSC, hW, hBY, hFA, hE, hK, hNT⟩ := hv
  have hB := hG.1
  have hZ := hG.2.2.2.2.2.2.1
  refine zr_aload_n hB 2 dL_law_1088 rfl ?_
  refine zr_aload_n hB 3 dL_law_1089 rfl ?_
  refine zr_iload_n hB 0 dL_law_1090 rfl ?_
  refine zr_iconst hB dL_law_1091 rfl (fun z1 hz1 => ?_)
  refine zr_iadd hB dL_law_1092 (by omega) (by omega) (fun z2 hz2 => ?_)
  refine zl_sld hG (ni + 1) dL_law_1093 (by omega) (by omega) ?_
  clear hz1 hz2
  refine zr_i2l hB dL_law_1094 (fun l3 hl3 => ?_)
  refine zr_bipush hB dL_law_1095 rfl (fun z4 hz4 => ?_)
  refine zr_lshl hB dL_law_1097 (fun l5 hl5 => ?_)
  refine zr_aload_n hB 3 dL_law_1098 rfl ?_
  refine zr_iload_n hB 0 dL_law_1099 rfl ?_
  refine zr_iconst hB dL_law_1100 rfl (fun z6 hz6 => ?_)
  refine zr_iadd hB dL_law_1101 (by omega) (by omega) (fun z7 hz7 => ?_)
  refine zl_sld hG (ni + 2) dL_law_1102 (by omega) (by omega) ?_
  clear hz6 hz7
  refine zr_i2l hB dL_law_1103 (fun l8 hl8 => ?_)
  refine zr_ldc2 hB dL_law_1104 wc_L_32 rfl (fun l9 hl9 => ?_)
  refine zr_land hB dL_law_1107 (fun l10 hl10 => ?_)
  refine zr_lor hB dL_law_1108 (fun l11 hl11 => ?_)
  refine zr_aload_n hB 3 dL_law_1109 rfl ?_
  refine zr_iload_n hB 0 dL_law_1110 rfl ?_
  refine zr_iconst hB dL_law_1111 rfl (fun z12 hz12 => ?_)
  refine zr_iadd hB dL_law_1112 (by omega) (by omega) (fun z13 hz13 => ?_)
  refine zl_sld hG (ni + 3) dL_law_1113 (by omega) (by omega) ?_
  clear hz12 hz13
  refine zr_aload_n hB 3 dL_law_1114 rfl ?_
  refine zr_iload_n hB 0 dL_law_1115 rfl ?_
  refine zr_iconst hB dL_law_1116 rfl (fun z14 hz14 => ?_)
  refine zr_iadd hB dL_law_1117 (by omega) (by omega) (fun z15 hz15 => ?_)
  refine zl_sld hG (ni + 4) dL_law_1118 (by omega) (by omega) ?_
  clear hz14 hz15
  refine zr_aload_n hB 3 dL_law_1119 rfl ?_
  refine zr_iload_n hB 0 dL_law_1120 rfl ?_
  refine zr_iconst hB dL_law_1121 rfl (fun z16 hz16 => ?_)
  refine zr_iadd hB dL_law_1122 (by omega) (by omega) (fun z17 hz17 => ?_)
  refine zl_sld hG (ni + 5) dL_law_1123 (by omega) (by omega) ?_
  clear hz16 hz17
  refine zl_callX hG (As := [.long l11, .int (zt_x Z (ni + 3)), .int (zt_x Z (ni + 4)), .int (zt_x Z (ni + 5))]) (rest := []) dL_law_1124 wm_L_97 rfl (c_X8_agree_0 (zl_K K (zt_X Z)) hG.2.2.2.2.2.2.2.2.2.1 σX l11 (zt_x Z (ni + 3)) (zt_x Z (ni + 4)) (zt_x Z (ni + 5)) hOX ) rfl rfl (Nat.le_of_ble_eq_true rfl) ⟨(Nat.le_of_ble_eq_true rfl), (Nat.le_of_ble_eq_true rfl), rfl, rfl⟩ (fun r18 σ19 h20 => ?_)
  obtain rfl := h20
  refine zr_pop hB dL_law_1127 rfl ?_
  refine zr_aload_n hB 1 dL_law_1128 rfl ?_
  refine zr_aload_n hB 3 dL_law_1129 rfl ?_
  refine zr_iload_n hB 0 dL_law_1130 rfl ?_
  refine zr_iconst hB dL_law_1131 rfl (fun z21 hz21 => ?_)
  refine zr_iadd hB dL_law_1132 (by omega) (by omega) (fun z22 hz22 => ?_)
  refine zl_sld hG (ni + 1) dL_law_1133 (by omega) (by omega) ?_
  clear hz21 hz22
  refine zr_i2l hB dL_law_1134 (fun l23 hl23 => ?_)
  obtain rfl : l3 = l23 := Int64.toInt_inj.mp (hl3.trans hl23.symm)
  refine zr_bipush hB dL_law_1135 rfl (fun z24 hz24 => ?_)
  obtain rfl : z4 = z24 := Int32.toInt_inj.mp (hz4.trans hz24.symm)
  refine zr_lshl hB dL_law_1137 (fun l25 hl25 => ?_)
  obtain rfl : l5 = l25 := hl5.trans hl25.symm
  refine zr_aload_n hB 3 dL_law_1138 rfl ?_
  refine zr_iload_n hB 0 dL_law_1139 rfl ?_
  refine zr_iconst hB dL_law_1140 rfl (fun z26 hz26 => ?_)
  refine zr_iadd hB dL_law_1141 (by omega) (by omega) (fun z27 hz27 => ?_)
  refine zl_sld hG (ni + 2) dL_law_1142 (by omega) (by omega) ?_
  clear hz26 hz27
  refine zr_i2l hB dL_law_1143 (fun l28 hl28 => ?_)
  obtain rfl : l8 = l28 := Int64.toInt_inj.mp (hl8.trans hl28.symm)
  refine zr_ldc2 hB dL_law_1144 wc_L_32 rfl (fun l29 hl29 => ?_)
  obtain rfl : l9 = l29 := Int64.toInt_inj.mp (hl9.trans hl29.symm)
  refine zr_land hB dL_law_1147 (fun l30 hl30 => ?_)
  obtain rfl : l10 = l30 := hl10.trans hl30.symm
  refine zr_lor hB dL_law_1148 (fun l31 hl31 => ?_)
  obtain rfl : l11 = l31 := hl11.trans hl31.symm
  refine zr_aload_n hB 3 dL_law_1149 rfl ?_
  refine zr_iload_n hB 0 dL_law_1150 rfl ?_
  refine zr_iconst hB dL_law_1151 rfl (fun z32 hz32 => ?_)
  refine zr_iadd hB dL_law_1152 (by omega) (by omega) (fun z33 hz33 => ?_)
  refine zl_sld hG (ni + 3) dL_law_1153 (by omega) (by omega) ?_
  clear hz32 hz33
  refine zr_aload_n hB 3 dL_law_1154 rfl ?_
  refine zr_iload_n hB 0 dL_law_1155 rfl ?_
  refine zr_iconst hB dL_law_1156 rfl (fun z34 hz34 => ?_)
  refine zr_iadd hB dL_law_1157 (by omega) (by omega) (fun z35 hz35 => ?_)
  refine zl_sld hG (ni + 4) dL_law_1158 (by omega) (by omega) ?_
  clear hz34 hz35
  refine zr_aload_n hB 3 dL_law_1159 rfl ?_
  refine zr_iload_n hB 0 dL_law_1160 rfl ?_
  refine zr_iconst hB dL_law_1161 rfl (fun z36 hz36 => ?_)
  refine zr_iadd hB dL_law_1162 (by omega) (by omega) (fun z37 hz37 => ?_)
  refine zl_sld hG (ni + 5) dL_law_1163 (by omega) (by omega) ?_
  clear hz36 hz37
  refine zl_callM hG (As := [.long l11, .int (zt_x Z (ni + 3)), .int (zt_x Z (ni + 4)), .int (zt_x Z (ni + 5))]) (rest := []) dL_law_1164 wm_L_101 rfl (c_M_agree (zl_K K (zt_M Z)) hG.2.2.2.2.2.2.2.2.2.2.1 σM l11 (zt_x Z (ni + 3)) (zt_x Z (ni + 4)) (zt_x Z (ni + 5)) hOM ) rfl rfl (Nat.le_of_ble_eq_true rfl) ⟨(Nat.le_of_ble_eq_true rfl), (Nat.le_of_ble_eq_true rfl), rfl, rfl⟩ (fun r38 σ39 h40 => ?_)
  obtain rfl := h40
  refine zr_pop hB dL_law_1167 rfl ?_
  refine zr_goto hB dL_law_1168 (tgt := 1780) rfl ?_
  exact kk _ _ ⟨hOX, hOM, hT, hN, hL, hF, hD, hSL, hSN, hSC, hW, hBY, hFA, hE, hK, hNT⟩

theorem lc_19 {K : zc_K} {G : zc_X} {Z : zl_T} (hG : zl_G K G Z) {σX σM : zc_S} {i : Int32} {ni : Nat} (hi : i.toInt = (ni : Int)) (h9 : ni + 9 ≤ zt_L Z) (hv : zl_v σX σM) (kk : ∀ σX' σM', zl_v σX' σM' → zc_V 4 K G (zl_I K G Z σX' σM') [(3, .int i), (2, .ref (zt_M Z 0)), (1, .ref (zt_X Z 0)), (0, .ref (zt_b Z))] 1780 []) : zc_V 4 K G (zl_I K G Z σX σM) [(3, .int i), (2, .ref (zt_M Z 0)), (1, .ref (zt_X Z 0)), (0, .ref (zt_b Z))] 1171 [] := by
  obtain ⟨hOX, hOM, hT, hN, hL, hF, hD, hSL, hSN, hSC, hW, hBY, hFA, hE, hK, hNT⟩ := hv
  have hB := hG.1
  have hZ := hG.2.2.2.2.2.2.1
  refine zr_aload_n hB 2 dL_law_1171 rfl ?_
  refine zr_aload_n hB 3 dL_law_1172 rfl ?_
  refine zr_iload_n hB 0 dL_law_1173 rfl ?_
  refine zr_iconst hB dL_law_1174 rfl (fun z1 hz1 => ?_)
  refine zr_iadd hB dL_law_1175 (by omega) (by omega) (fun z2 hz2 => ?_)
  refine zl_sld hG (ni + 1) dL_law_1176 (by omega) (by omega) ?_
  clear hz1 hz2
  refine zr_aload_n hB 3 dL_law_1177 rfl ?_
  refine zr_iload_n hB 0 dL_law_1178 rfl ?_
  refine zr_iconst hB dL_law_1179 rfl (fun z3 hz3 => ?_)
  refine zr_iadd hB dL_law_1180 (by omega) (by omega) (fun z4 hz4 => ?_)
  refine zl_sld hG (ni + 2) dL_law_1181 (by omega) (by omega) ?_
  clear hz3 hz4
  refine zr_aload_n hB 3 dL_law_1182 rfl ?_
  refine zr_iload_n hB 0 dL_law_1183 rfl ?_
  refine zr_iconst hB dL_law_1184 rfl (fun z5 hz5 => ?_)
  refine zr_iadd hB dL_law_1185 (by omega) (by omega) (fun z6 hz6 => ?_)
  refine zl_sld hG (ni + 3) dL_law_1186 (by omega) (by omega) ?_
  clear hz5 hz6
  refine zr_aload_n hB 3 dL_law_1187 rfl ?_
  refine zr_iload_n hB 0 dL_law_1188 rfl ?_
  refine zr_iconst hB dL_law_1189 rfl (fun z7 hz7 => ?_)
  refine zr_iadd hB dL_law_1190 (by omega) (by omega) (fun z8 hz8 => ?_)
  refine zl_sld hG (ni + 4) dL_law_1191 (by omega) (by omega) ?_
  clear hz7 hz8
  refine zr_aload_n hB 3 dL_law_1192 rfl ?_
  refine zr_iload_n hB 0 dL_law_1193 rfl ?_
  refine zr_iconst hB dL_law_1194 rfl (fun z9 hz9 => ?_)
  refine zr_iadd hB dL_law_1195 (by omega) (by omega) (fun z10 hz10 => ?_)
  refine zl_sld hG (ni + 5) dL_law_1196 (by omega) (by omega) ?_
  clear hz9 hz10
  refine zr_aload_n hB 3 dL_law_1197 rfl ?_
  refine zr_iload_n hB 0 dL_law_1198 rfl ?_
  refine zr_bipush hB dL_law_1199 rfl (fun z11 hz11 => ?_)
  refine zr_iadd hB dL_law_1201 (by omega) (by omega) (fun z12 hz12 => ?_)
  refine zl_sld hG (ni + 6) dL_law_1202 (by omega) (by omega) ?_
  clear hz11 hz12
  refine zr_aload_n hB 3 dL_law_1203 rfl ?_
  refine zr_iload_n hB 0 dL_law_1204 rfl ?_
  refine zr_bipush hB dL_law_1205 rfl (fun z13 hz13 => ?_)
  refine zr_iadd hB dL_law_1207 (by omega) (by omega) (fun z14 hz14 => ?_)
  refine zl_sld hG (ni + 7) dL_law_1208 (by omega) (by omega) ?_
  clear hz13 hz14
  refine zr_aload_n hB 3 dL_law_1209 rfl ?_
  refine zr_iload_n hB 0 dL_law_1210 rfl ?_
  refine zr_bipush hB dL_law_1211 rfl (fun z15 hz15 => ?_)
  refine zr_iadd hB dL_law_1213 (by omega) (by omega) (fun z16 hz16 => ?_)
  refine zl_sld hG (ni + 8) dL_law_1214 (by omega) (by omega) ?_
  clear hz15 hz16
  refine zl_callX hG (As := [.int (zt_x Z (ni + 1)), .int (zt_x Z (ni + 2)), .int (zt_x Z (ni + 3)), .int (zt_x Z (ni + 4)), .int (zt_x Z (ni + 5)), .int (zt_x Z (ni + 6)), .int (zt_x Z (ni + 7)), .int (zt_x Z (ni + 8))]) (rest := []) dL_law_1215 wm_L_102 rfl (c_X8_number_0 (zl_K K (zt_X Z)) hG.2.2.2.2.2.2.2.2.2.1 σX (zt_x Z (ni + 1)) (zt_x Z (ni + 2)) (zt_x Z (ni + 3)) (zt_x Z (ni + 4)) (zt_x Z (ni + 5)) (zt_x Z (ni + 6)) (zt_x Z (ni + 7)) (zt_x Z (ni + 8)) hOX ) rfl rfl (Nat.le_of_ble_eq_true rfl) ⟨(Nat.le_of_ble_eq_true rfl), (Nat.le_of_ble_eq_true rfl), rfl, rfl⟩ (fun r17 σ18 h19 => ?_)
  obtain ⟨hO20, hA21⟩ := h19
  have hN22 : (σ18.1 1 0).toInt = (σM.1 0 1).toInt := by rw [(hA21 1 0 rfl).1]; exact hN
  have hL23 : (σ18.1 2 1).toInt = (σM.1 0 6).toInt := by rw [(hA21 2 1 rfl).1]; exact hL
  have hF24 : ∀ j : Nat, (σ18.1 15 j).toInt = (σM.1 2 j).toInt := fun j => by rw [(hA21 15 j rfl).1]; exact hF j
  have hD25 : ∀ j : Nat, (σ18.1 16 j).toInt = (σM.1 3 j).toInt := fun j => by rw [(hA21 16 j rfl).1]; exact hD j
  have hSL26 : ∀ j : Nat, zl_R (σ18.1 37 j) (σM.1 24 j) := fun j => by rw [(hA21 37 j rfl).1]; exact hSL j
  have hSN27 : ∀ j : Nat, (σ18.1 38 j).toInt = (σM.1 25 j).toInt := fun j => by rw [(hA21 38 j rfl).1]; exact hSN j
  have hSC28 : zl_SC σ18 σM := hSC.x hA21 (fun _ => rfl) (fun _ => rfl)
  have hW29 : zl_W σ18 σM := hW.x hA21 rfl (fun _ => rfl) (fun _ => rfl) (fun _ => rfl) (fun _ => rfl)
  have hBY30 : zl_B σ18 σM := hBY.x hA21 rfl (fun _ => rfl)
  have hFA31 : (σ18.1 2 3).toInt = (σM.1 0 7).toInt := by rw [(hA21 2 3 rfl).1]; exact hFA
  have hE32 : zl_E σ18 σM := hE.x hA21 rfl (fun _ => rfl) (fun _ => rfl) (fun _ => rfl)
  have hK33 : zw_K σM := hK
  have hNT34 : zl_N σ18 σM := hNT.x hA21 rfl (fun _ => rfl) (fun _ => rfl) (fun _ => rfl)
  refine zr_pop hB dL_law_1218 rfl ?_
  refine zr_aload_n hB 1 dL_law_1219 rfl ?_
  refine zr_aload_n hB 3 dL_law_1220 rfl ?_
  refine zr_iload_n hB 0 dL_law_1221 rfl ?_
  refine zr_iconst hB dL_law_1222 rfl (fun z35 hz35 => ?_)
  refine zr_iadd hB dL_law_1223 (by omega) (by omega) (fun z36 hz36 => ?_)
  refine zl_sld hG (ni + 1) dL_law_1224 (by omega) (by omega) ?_
  clear hz35 hz36
  refine zr_aload_n hB 3 dL_law_1225 rfl ?_
  refine zr_iload_n hB 0 dL_law_1226 rfl ?_
  refine zr_iconst hB dL_law_1227 rfl (fun z37 hz37 => ?_)
  refine zr_iadd hB dL_law_1228 (by omega) (by omega) (fun z38 hz38 => ?_)
  refine zl_sld hG (ni + 2) dL_law_1229 (by omega) (by omega) ?_
  clear hz37 hz38
  refine zr_aload_n hB 3 dL_law_1230 rfl ?_
  refine zr_iload_n hB 0 dL_law_1231 rfl ?_
  refine zr_iconst hB dL_law_1232 rfl (fun z39 hz39 => ?_)
  refine zr_iadd hB dL_law_1233 (by omega) (by omega) (fun z40 hz40 => ?_)
  refine zl_sld hG (ni + 3) dL_law_1234 (by omega) (by omega) ?_
  clear hz39 hz40
  refine zr_aload_n hB 3 dL_law_1235 rfl ?_
  refine zr_iload_n hB 0 dL_law_1236 rfl ?_
  refine zr_iconst hB dL_law_1237 rfl (fun z41 hz41 => ?_)
  refine zr_iadd hB dL_law_1238 (by omega) (by omega) (fun z42 hz42 => ?_)
  refine zl_sld hG (ni + 4) dL_law_1239 (by omega) (by omega) ?_
  clear hz41 hz42
  refine zr_aload_n hB 3 dL_law_1240 rfl ?_
  refine zr_iload_n hB 0 dL_law_1241 rfl ?_
  refine zr_iconst hB dL_law_1242 rfl (fun z43 hz43 => ?_)
  refine zr_iadd hB dL_law_1243 (by omega) (by omega) (fun z44 hz44 => ?_)
  refine zl_sld hG (ni + 5) dL_law_1244 (by omega) (by omega) ?_
  clear hz43 hz44
  refine zr_aload_n hB 3 dL_law_1245 rfl ?_
  refine zr_iload_n hB 0 dL_law_1246 rfl ?_
  refine zr_bipush hB dL_law_1247 rfl (fun z45 hz45 => ?_)
  refine zr_iadd hB dL_law_1249 (by omega) (by omega) (fun z46 hz46 => ?_)
  refine zl_sld hG (ni + 6) dL_law_1250 (by omega) (by omega) ?_
  clear hz45 hz46
  refine zr_aload_n hB 3 dL_law_1251 rfl ?_
  refine zr_iload_n hB 0 dL_law_1252 rfl ?_
  refine zr_bipush hB dL_law_1253 rfl (fun z47 hz47 => ?_)
  refine zr_iadd hB dL_law_1255 (by omega) (by omega) (fun z48 hz48 => ?_)
  refine zl_sld hG (ni + 7) dL_law_1256 (by omega) (by omega) ?_
  clear hz47 hz48
  refine zr_aload_n hB 3 dL_law_1257 rfl ?_
  refine zr_iload_n hB 0 dL_law_1258 rfl ?_
  refine zr_bipush hB dL_law_1259 rfl (fun z49 hz49 => ?_)
  refine zr_iadd hB dL_law_1261 (by omega) (by omega) (fun z50 hz50 => ?_)
  refine zl_sld hG (ni + 8) dL_law_1262 (by omega) (by omega) ?_
  clear hz49 hz50
  refine zl_callM hG (As := [.int (zt_x Z (ni + 1)), .int (zt_x Z (ni + 2)), .int (zt_x Z (ni + 3)), .int (zt_x Z (ni + 4)), .int (zt_x Z (ni + 5)), .int (zt_x Z (ni + 6)), .int (zt_x Z (ni + 7)), .int (zt_x Z (ni + 8))]) (rest := []) dL_law_1263 wm_L_106 rfl (c_M_numberOf (zl_K K (zt_M Z)) hG.2.2.2.2.2.2.2.2.2.2.1 σM (zt_x Z (ni + 1)) (zt_x Z (ni + 2)) (zt_x Z (ni + 3)) (zt_x Z (ni + 4)) (zt_x Z (ni + 5)) (zt_x Z (ni + 6)) (zt_x Z (ni + 7)) (zt_x Z (ni + 8)) hOM hT) rfl rfl (Nat.le_of_ble_eq_true rfl) ⟨(Nat.le_of_ble_eq_true rfl), (Nat.le_of_ble_eq_true rfl), rfl, rfl⟩ (fun r51 σ52 h53 => ?_)
  obtain ⟨hO54, hA55⟩ := h53
  have hT56 := zm_T.ag hT hA55 rfl (fun _ => rfl) (fun _ => rfl)
  have hN57 : (σ18.1 1 0).toInt = (σ52.1 0 1).toInt := by rw [(hA55 0 1 rfl).1]; exact hN22
  have hL58 : (σ18.1 2 1).toInt = (σ52.1 0 6).toInt := by rw [(hA55 0 6 rfl).1]; exact hL23
  have hF59 : ∀ j : Nat, (σ18.1 15 j).toInt = (σ52.1 2 j).toInt := fun j => by rw [(hA55 2 j rfl).1]; exact hF24 j
  have hD60 : ∀ j : Nat, (σ18.1 16 j).toInt = (σ52.1 3 j).toInt := fun j => by rw [(hA55 3 j rfl).1]; exact hD25 j
  have hSL61 : ∀ j : Nat, zl_R (σ18.1 37 j) (σ52.1 24 j) := fun j => by rw [(hA55 24 j rfl).1]; exact hSL26 j
  have hSN62 : ∀ j : Nat, (σ18.1 38 j).toInt = (σ52.1 25 j).toInt := fun j => by rw [(hA55 25 j rfl).1]; exact hSN27 j
  have hSC63 : zl_SC σ18 σ52 := hSC28.m hA55 (fun _ => rfl)
  have hW64 : zl_W σ18 σ52 := hW29.m hA55 (fun _ => rfl) rfl
  have hBY65 : zl_B σ18 σ52 := hBY30.m hA55 (fun _ => rfl)
  have hFA66 : (σ18.1 2 3).toInt = (σ52.1 0 7).toInt := by rw [(hA55 0 7 rfl).1]; exact hFA31
  have hE67 : zl_E σ18 σ52 := hE32.m hA55 rfl (fun _ => rfl) (fun _ => rfl) (fun _ => rfl)
  have hK68 : zw_K σ52 := zw_K.ag hK33 hA55 rfl (fun _ => rfl) (fun _ => rfl)
  have hNT69 : zl_N σ18 σ52 := hNT34.m hA55 rfl (fun _ => rfl) (fun _ => rfl) (fun _ => rfl)
  refine zr_pop hB dL_law_1266 rfl ?_
  refine zr_goto hB dL_law_1267 (tgt := 1780) rfl ?_
  exact kk _ _ ⟨hO20, hO54, hT56, hN57, hL58, hF59, hD60, hSL61, hSN62, hSC63, hW64, hBY65, hFA66, hE67, hK68, hNT69⟩

theorem lc_20 {K : zc_K} {G : zc_X} {Z : zl_T} (hG : zl_G K G Z) {σX σM : zc_S} {i : Int32} {ni : Nat} (hi : i.toInt = (ni : Int)) (h9 : ni + 9 ≤ zt_L Z) (hv : zl_v σX σM) (kk : ∀ σX' σM', zl_v σX' σM' → zc_V 4 K G (zl_I K G Z σX' σM') [(3, .int i), (2, .ref (zt_M Z 0)), (1, .ref (zt_X Z 0)), (0, .ref (zt_b Z))] 1780 []) : zc_V 4 K G (zl_I K G Z σX σM) [(3, .int i), (2, .ref (zt_M Z 0)), (1, .ref (zt_X Z 0)), (0, .ref (zt_b Z))] 1270 [] := by
  obtain ⟨hOX, hOM, hT, hN, hL, hF, hD, hSL, hSN, hSC, hW, hBY, hFA, hE, hK, hNT⟩ := hv
  have hB := hG.1
  have hZ := hG.2.2.2.2.2.2.1
  refine zr_aload_n hB 2 dL_law_1270 rfl ?_
  refine zr_aload_n hB 3 dL_law_1271 rfl ?_
  refine zr_iload_n hB 0 dL_law_1272 rfl ?_
  refine zr_iconst hB dL_law_1273 rfl (fun z1 hz1 => ?_)
  refine zr_iadd hB dL_law_1274 (by omega) (by omega) (fun z2 hz2 => ?_)
  refine zl_sld hG (ni + 1) dL_law_1275 (by omega) (by omega) ?_
  clear hz1 hz2
  refine zr_aload_n hB 3 dL_law_1276 rfl ?_
  refine zr_iload_n hB 0 dL_law_1277 rfl ?_
  refine zr_iconst hB dL_law_1278 rfl (fun z3 hz3 => ?_)
  refine zr_iadd hB dL_law_1279 (by omega) (by omega) (fun z4 hz4 => ?_)
  refine zl_sld hG (ni + 2) dL_law_1280 (by omega) (by omega) ?_
  clear hz3 hz4
  refine zr_aload_n hB 3 dL_law_1281 rfl ?_
  refine zr_iload_n hB 0 dL_law_1282 rfl ?_
  refine zr_iconst hB dL_law_1283 rfl (fun z5 hz5 => ?_)
  refine zr_iadd hB dL_law_1284 (by omega) (by omega) (fun z6 hz6 => ?_)
  refine zl_sld hG (ni + 3) dL_law_1285 (by omega) (by omega) ?_
  clear hz5 hz6
  refine zr_aload_n hB 3 dL_law_1286 rfl ?_
  refine zr_iload_n hB 0 dL_law_1287 rfl ?_
  refine zr_iconst hB dL_law_1288 rfl (fun z7 hz7 => ?_)
  refine zr_iadd hB dL_law_1289 (by omega) (by omega) (fun z8 hz8 => ?_)
  refine zl_sld hG (ni + 4) dL_law_1290 (by omega) (by omega) ?_
  clear hz7 hz8
  refine zr_aload_n hB 3 dL_law_1291 rfl ?_
  refine zr_iload_n hB 0 dL_law_1292 rfl ?_
  refine zr_iconst hB dL_law_1293 rfl (fun z9 hz9 => ?_)
  refine zr_iadd hB dL_law_1294 (by omega) (by omega) (fun z10 hz10 => ?_)
  refine zl_sld hG (ni + 5) dL_law_1295 (by omega) (by omega) ?_
  clear hz9 hz10
  refine zl_callX hG (As := [.int (zt_x Z (ni + 1)), .int (zt_x Z (ni + 2)), .int (zt_x Z (ni + 3)), .int (zt_x Z (ni + 4)), .int (zt_x Z (ni + 5))]) (rest := []) dL_law_1296 wm_L_107 rfl (c_X8_worth_0 (zl_K K (zt_X Z)) hG.2.2.2.2.2.2.2.2.2.1 σX (zt_x Z (ni + 1)) (zt_x Z (ni + 2)) (zt_x Z (ni + 3)) (zt_x Z (ni + 4)) (zt_x Z (ni + 5)) hOX ) rfl rfl (Nat.le_of_ble_eq_true rfl) ⟨(Nat.le_of_ble_eq_true rfl), (Nat.le_of_ble_eq_true rfl), rfl, rfl⟩ (fun r11 σ12 h13 => ?_)
  obtain ⟨hO14, hA15⟩ := h13
  have hN16 : (σ12.1 1 0).toInt = (σM.1 0 1).toInt := by rw [(hA15 1 0 rfl).1]; exact hN
  have hL17 : (σ12.1 2 1).toInt = (σM.1 0 6).toInt := by rw [(hA15 2 1 rfl).1]; exact hL
  have hF18 : ∀ j : Nat, (σ12.1 15 j).toInt = (σM.1 2 j).toInt := fun j => by rw [(hA15 15 j rfl).1]; exact hF j
  have hD19 : ∀ j : Nat, (σ12.1 16 j).toInt = (σM.1 3 j).toInt := fun j => by rw [(hA15 16 j rfl).1]; exact hD j
  have hSL20 : ∀ j : Nat, zl_R (σ12.1 37 j) (σM.1 24 j) := fun j => by rw [(hA15 37 j rfl).1]; exact hSL j
  have hSN21 : ∀ j : Nat, (σ12.1 38 j).toInt = (σM.1 25 j).toInt := fun j => by rw [(hA15 38 j rfl).1]; exact hSN j
  have hSC22 : zl_SC σ12 σM := hSC.x hA15 (fun _ => rfl) (fun _ => rfl)
  have hW23 : zl_W σ12 σM := hW.x hA15 rfl (fun _ => rfl) (fun _ => rfl) (fun _ => rfl) (fun _ => rfl)
  have hBY24 : zl_B σ12 σM := hBY.x hA15 rfl (fun _ => rfl)
  have hFA25 : (σ12.1 2 3).toInt = (σM.1 0 7).toInt := by rw [(hA15 2 3 rfl).1]; exact hFA
  have hE26 : zl_E σ12 σM := hE.x hA15 rfl (fun _ => rfl) (fun _ => rfl) (fun _ => rfl)
  have hK27 : zw_K σM := hK
  have hNT28 : zl_N σ12 σM := hNT.x hA15 rfl (fun _ => rfl) (fun _ => rfl) (fun _ => rfl)
  refine zr_pop hB dL_law_1299 rfl ?_
  refine zr_aload_n hB 1 dL_law_1300 rfl ?_
  refine zr_aload_n hB 3 dL_law_1301 rfl ?_
  refine zr_iload_n hB 0 dL_law_1302 rfl ?_
  refine zr_iconst hB dL_law_1303 rfl (fun z29 hz29 => ?_)
  refine zr_iadd hB dL_law_1304 (by omega) (by omega) (fun z30 hz30 => ?_)
  refine zl_sld hG (ni + 1) dL_law_1305 (by omega) (by omega) ?_
  clear hz29 hz30
  refine zr_aload_n hB 3 dL_law_1306 rfl ?_
  refine zr_iload_n hB 0 dL_law_1307 rfl ?_
  refine zr_iconst hB dL_law_1308 rfl (fun z31 hz31 => ?_)
  refine zr_iadd hB dL_law_1309 (by omega) (by omega) (fun z32 hz32 => ?_)
  refine zl_sld hG (ni + 2) dL_law_1310 (by omega) (by omega) ?_
  clear hz31 hz32
  refine zr_aload_n hB 3 dL_law_1311 rfl ?_
  refine zr_iload_n hB 0 dL_law_1312 rfl ?_
  refine zr_iconst hB dL_law_1313 rfl (fun z33 hz33 => ?_)
  refine zr_iadd hB dL_law_1314 (by omega) (by omega) (fun z34 hz34 => ?_)
  refine zl_sld hG (ni + 3) dL_law_1315 (by omega) (by omega) ?_
  clear hz33 hz34
  refine zr_aload_n hB 3 dL_law_1316 rfl ?_
  refine zr_iload_n hB 0 dL_law_1317 rfl ?_
  refine zr_iconst hB dL_law_1318 rfl (fun z35 hz35 => ?_)
  refine zr_iadd hB dL_law_1319 (by omega) (by omega) (fun z36 hz36 => ?_)
  refine zl_sld hG (ni + 4) dL_law_1320 (by omega) (by omega) ?_
  clear hz35 hz36
  refine zr_aload_n hB 3 dL_law_1321 rfl ?_
  refine zr_iload_n hB 0 dL_law_1322 rfl ?_
  refine zr_iconst hB dL_law_1323 rfl (fun z37 hz37 => ?_)
  refine zr_iadd hB dL_law_1324 (by omega) (by omega) (fun z38 hz38 => ?_)
  refine zl_sld hG (ni + 5) dL_law_1325 (by omega) (by omega) ?_
  clear hz37 hz38
  refine zl_callM hG (As := [.int (zt_x Z (ni + 1)), .int (zt_x Z (ni + 2)), .int (zt_x Z (ni + 3)), .int (zt_x Z (ni + 4)), .int (zt_x Z (ni + 5))]) (rest := []) dL_law_1326 wm_L_110 rfl (c_M_worth (zl_K K (zt_M Z)) hG.2.2.2.2.2.2.2.2.2.2.1 σM (zt_x Z (ni + 1)) (zt_x Z (ni + 2)) (zt_x Z (ni + 3)) (zt_x Z (ni + 4)) (zt_x Z (ni + 5)) hOM hT) rfl rfl (Nat.le_of_ble_eq_true rfl) ⟨(Nat.le_of_ble_eq_true rfl), (Nat.le_of_ble_eq_true rfl), rfl, rfl⟩ (fun r39 σ40 h41 => ?_)
  obtain ⟨hO42, hA43⟩ := h41
  have hT44 := zm_T.ag hT hA43 rfl (fun _ => rfl) (fun _ => rfl)
  have hN45 : (σ12.1 1 0).toInt = (σ40.1 0 1).toInt := by rw [(hA43 0 1 rfl).1]; exact hN16
  have hL46 : (σ12.1 2 1).toInt = (σ40.1 0 6).toInt := by rw [(hA43 0 6 rfl).1]; exact hL17
  have hF47 : ∀ j : Nat, (σ12.1 15 j).toInt = (σ40.1 2 j).toInt := fun j => by rw [(hA43 2 j rfl).1]; exact hF18 j
  have hD48 : ∀ j : Nat, (σ12.1 16 j).toInt = (σ40.1 3 j).toInt := fun j => by rw [(hA43 3 j rfl).1]; exact hD19 j
  have hSL49 : ∀ j : Nat, zl_R (σ12.1 37 j) (σ40.1 24 j) := fun j => by rw [(hA43 24 j rfl).1]; exact hSL20 j
  have hSN50 : ∀ j : Nat, (σ12.1 38 j).toInt = (σ40.1 25 j).toInt := fun j => by rw [(hA43 25 j rfl).1]; exact hSN21 j
  have hSC51 : zl_SC σ12 σ40 := hSC22.m hA43 (fun _ => rfl)
  have hW52 : zl_W σ12 σ40 := hW23.m hA43 (fun _ => rfl) rfl
  have hBY53 : zl_B σ12 σ40 := hBY24.m hA43 (fun _ => rfl)
  have hFA54 : (σ12.1 2 3).toInt = (σ40.1 0 7).toInt := by rw [(hA43 0 7 rfl).1]; exact hFA25
  have hE55 : zl_E σ12 σ40 := hE26.m hA43 rfl (fun _ => rfl) (fun _ => rfl) (fun _ => rfl)
  have hK56 : zw_K σ40 := zw_K.ag hK27 hA43 rfl (fun _ => rfl) (fun _ => rfl)
  have hNT57 : zl_N σ12 σ40 := hNT28.m hA43 rfl (fun _ => rfl) (fun _ => rfl) (fun _ => rfl)
  refine zr_pop hB dL_law_1329 rfl ?_
  refine zr_goto hB dL_law_1330 (tgt := 1780) rfl ?_
  exact kk _ _ ⟨hO14, hO42, hT44, hN45, hL46, hF47, hD48, hSL49, hSN50, hSC51, hW52, hBY53, hFA54, hE55, hK56, hNT57⟩

theorem lc_21 {K : zc_K} {G : zc_X} {Z : zl_T} (hG : zl_G K G Z) {σX σM : zc_S} {i : Int32} {ni : Nat} (hi : i.toInt = (ni : Int)) (h9 : ni + 9 ≤ zt_L Z) (hv : zl_v σX σM) (kk : ∀ σX' σM', zl_v σX' σM' → zc_V 4 K G (zl_I K G Z σX' σM') [(3, .int i), (2, .ref (zt_M Z 0)), (1, .ref (zt_X Z 0)), (0, .ref (zt_b Z))] 1780 []) : zc_V 4 K G (zl_I K G Z σX σM) [(3, .int i), (2, .ref (zt_M Z 0)), (1, .ref (zt_X Z 0)), (0, .ref (zt_b Z))] 1333 [] := by
  obtain ⟨hOX, hOM, hT, hN, hL, hF, hD, hSL, hSN, hSC, hW, hBY, hFA, hE, hK, hNT⟩ := hv
  have hB := hG.1
  have hZ := hG.2.2.2.2.2.2.1
  refine zr_aload_n hB 2 dL_law_1333 rfl ?_
  refine zr_aload_n hB 3 dL_law_1334 rfl ?_
  refine zr_iload_n hB 0 dL_law_1335 rfl ?_
  refine zr_iconst hB dL_law_1336 rfl (fun z1 hz1 => ?_)
  refine zr_iadd hB dL_law_1337 (by omega) (by omega) (fun z2 hz2 => ?_)
  refine zl_sld hG (ni + 1) dL_law_1338 (by omega) (by omega) ?_
  clear hz1 hz2
  refine zr_aload_n hB 3 dL_law_1339 rfl ?_
  refine zr_iload_n hB 0 dL_law_1340 rfl ?_
  refine zr_iconst hB dL_law_1341 rfl (fun z3 hz3 => ?_)
  refine zr_iadd hB dL_law_1342 (by omega) (by omega) (fun z4 hz4 => ?_)
  refine zl_sld hG (ni + 2) dL_law_1343 (by omega) (by omega) ?_
  clear hz3 hz4
  refine zr_aload_n hB 3 dL_law_1344 rfl ?_
  refine zr_iload_n hB 0 dL_law_1345 rfl ?_
  refine zr_iconst hB dL_law_1346 rfl (fun z5 hz5 => ?_)
  refine zr_iadd hB dL_law_1347 (by omega) (by omega) (fun z6 hz6 => ?_)
  refine zl_sld hG (ni + 3) dL_law_1348 (by omega) (by omega) ?_
  clear hz5 hz6
  refine zr_aload_n hB 3 dL_law_1349 rfl ?_
  refine zr_iload_n hB 0 dL_law_1350 rfl ?_
  refine zr_iconst hB dL_law_1351 rfl (fun z7 hz7 => ?_)
  refine zr_iadd hB dL_law_1352 (by omega) (by omega) (fun z8 hz8 => ?_)
  refine zl_sld hG (ni + 4) dL_law_1353 (by omega) (by omega) ?_
  clear hz7 hz8
  refine zr_aload_n hB 3 dL_law_1354 rfl ?_
  refine zr_iload_n hB 0 dL_law_1355 rfl ?_
  refine zr_iconst hB dL_law_1356 rfl (fun z9 hz9 => ?_)
  refine zr_iadd hB dL_law_1357 (by omega) (by omega) (fun z10 hz10 => ?_)
  refine zl_sld hG (ni + 5) dL_law_1358 (by omega) (by omega) ?_
  clear hz9 hz10
  refine zr_aload_n hB 3 dL_law_1359 rfl ?_
  refine zr_iload_n hB 0 dL_law_1360 rfl ?_
  refine zr_bipush hB dL_law_1361 rfl (fun z11 hz11 => ?_)
  refine zr_iadd hB dL_law_1363 (by omega) (by omega) (fun z12 hz12 => ?_)
  refine zl_sld hG (ni + 6) dL_law_1364 (by omega) (by omega) ?_
  clear hz11 hz12
  refine zl_callX hG (As := [.int (zt_x Z (ni + 1)), .int (zt_x Z (ni + 2)), .int (zt_x Z (ni + 3)), .int (zt_x Z (ni + 4)), .int (zt_x Z (ni + 5)), .int (zt_x Z (ni + 6))]) (rest := []) dL_law_1365 wm_L_111 rfl (c_X8_dealt_0 (zl_K K (zt_X Z)) hG.2.2.2.2.2.2.2.2.2.1 σX (zt_x Z (ni + 1)) (zt_x Z (ni + 2)) (zt_x Z (ni + 3)) (zt_x Z (ni + 4)) (zt_x Z (ni + 5)) (zt_x Z (ni + 6)) hOX ) rfl rfl (Nat.le_of_ble_eq_true rfl) ⟨(Nat.le_of_ble_eq_true rfl), (Nat.le_of_ble_eq_true rfl), rfl, rfl⟩ (fun r13 σ14 h15 => ?_)
  obtain ⟨hO16, hA17⟩ := h15
  have hN18 : (σ14.1 1 0).toInt = (σM.1 0 1).toInt := by rw [(hA17 1 0 rfl).1]; exact hN
  have hL19 : (σ14.1 2 1).toInt = (σM.1 0 6).toInt := by rw [(hA17 2 1 rfl).1]; exact hL
  have hF20 : ∀ j : Nat, (σ14.1 15 j).toInt = (σM.1 2 j).toInt := fun j => by rw [(hA17 15 j rfl).1]; exact hF j
  have hD21 : ∀ j : Nat, (σ14.1 16 j).toInt = (σM.1 3 j).toInt := fun j => by rw [(hA17 16 j rfl).1]; exact hD j
  have hSL22 : ∀ j : Nat, zl_R (σ14.1 37 j) (σM.1 24 j) := fun j => by rw [(hA17 37 j rfl).1]; exact hSL j
  have hSN23 : ∀ j : Nat, (σ14.1 38 j).toInt = (σM.1 25 j).toInt := fun j => by rw [(hA17 38 j rfl).1]; exact hSN j
  have hSC24 : zl_SC σ14 σM := hSC.x hA17 (fun _ => rfl) (fun _ => rfl)
  have hW25 : zl_W σ14 σM := hW.x hA17 rfl (fun _ => rfl) (fun _ => rfl) (fun _ => rfl) (fun _ => rfl)
  have hBY26 : zl_B σ14 σM := hBY.x hA17 rfl (fun _ => rfl)
  have hFA27 : (σ14.1 2 3).toInt = (σM.1 0 7).toInt := by rw [(hA17 2 3 rfl).1]; exact hFA
  have hE28 : zl_E σ14 σM := hE.x hA17 rfl (fun _ => rfl) (fun _ => rfl) (fun _ => rfl)
  have hK29 : zw_K σM := hK
  have hNT30 : zl_N σ14 σM := hNT.x hA17 rfl (fun _ => rfl) (fun _ => rfl) (fun _ => rfl)
  refine zr_pop hB dL_law_1368 rfl ?_
  refine zr_aload_n hB 1 dL_law_1369 rfl ?_
  refine zr_aload_n hB 3 dL_law_1370 rfl ?_
  refine zr_iload_n hB 0 dL_law_1371 rfl ?_
  refine zr_iconst hB dL_law_1372 rfl (fun z31 hz31 => ?_)
  refine zr_iadd hB dL_law_1373 (by omega) (by omega) (fun z32 hz32 => ?_)
  refine zl_sld hG (ni + 1) dL_law_1374 (by omega) (by omega) ?_
  clear hz31 hz32
  refine zr_aload_n hB 3 dL_law_1375 rfl ?_
  refine zr_iload_n hB 0 dL_law_1376 rfl ?_
  refine zr_iconst hB dL_law_1377 rfl (fun z33 hz33 => ?_)
  refine zr_iadd hB dL_law_1378 (by omega) (by omega) (fun z34 hz34 => ?_)
  refine zl_sld hG (ni + 2) dL_law_1379 (by omega) (by omega) ?_
  clear hz33 hz34
  refine zr_aload_n hB 3 dL_law_1380 rfl ?_
  refine zr_iload_n hB 0 dL_law_1381 rfl ?_
  refine zr_iconst hB dL_law_1382 rfl (fun z35 hz35 => ?_)
  refine zr_iadd hB dL_law_1383 (by omega) (by omega) (fun z36 hz36 => ?_)
  refine zl_sld hG (ni + 3) dL_law_1384 (by omega) (by omega) ?_
  clear hz35 hz36
  refine zr_aload_n hB 3 dL_law_1385 rfl ?_
  refine zr_iload_n hB 0 dL_law_1386 rfl ?_
  refine zr_iconst hB dL_law_1387 rfl (fun z37 hz37 => ?_)
  refine zr_iadd hB dL_law_1388 (by omega) (by omega) (fun z38 hz38 => ?_)
  refine zl_sld hG (ni + 4) dL_law_1389 (by omega) (by omega) ?_
  clear hz37 hz38
  refine zr_aload_n hB 3 dL_law_1390 rfl ?_
  refine zr_iload_n hB 0 dL_law_1391 rfl ?_
  refine zr_iconst hB dL_law_1392 rfl (fun z39 hz39 => ?_)
  refine zr_iadd hB dL_law_1393 (by omega) (by omega) (fun z40 hz40 => ?_)
  refine zl_sld hG (ni + 5) dL_law_1394 (by omega) (by omega) ?_
  clear hz39 hz40
  refine zr_aload_n hB 3 dL_law_1395 rfl ?_
  refine zr_iload_n hB 0 dL_law_1396 rfl ?_
  refine zr_bipush hB dL_law_1397 rfl (fun z41 hz41 => ?_)
  refine zr_iadd hB dL_law_1399 (by omega) (by omega) (fun z42 hz42 => ?_)
  refine zl_sld hG (ni + 6) dL_law_1400 (by omega) (by omega) ?_
  clear hz41 hz42
  refine zl_callM hG (As := [.int (zt_x Z (ni + 1)), .int (zt_x Z (ni + 2)), .int (zt_x Z (ni + 3)), .int (zt_x Z (ni + 4)), .int (zt_x Z (ni + 5)), .int (zt_x Z (ni + 6))]) (rest := []) dL_law_1401 wm_L_114 rfl (c_M_dealt (zl_K K (zt_M Z)) hG.2.2.2.2.2.2.2.2.2.2.1 σM (zt_x Z (ni + 1)) (zt_x Z (ni + 2)) (zt_x Z (ni + 3)) (zt_x Z (ni + 4)) (zt_x Z (ni + 5)) (zt_x Z (ni + 6)) hOM hT) rfl rfl (Nat.le_of_ble_eq_true rfl) ⟨(Nat.le_of_ble_eq_true rfl), (Nat.le_of_ble_eq_true rfl), rfl, rfl⟩ (fun r43 σ44 h45 => ?_)
  obtain ⟨hO46, hA47⟩ := h45
  have hT48 := zm_T.ag hT hA47 rfl (fun _ => rfl) (fun _ => rfl)
  have hN49 : (σ14.1 1 0).toInt = (σ44.1 0 1).toInt := by rw [(hA47 0 1 rfl).1]; exact hN18
  have hL50 : (σ14.1 2 1).toInt = (σ44.1 0 6).toInt := by rw [(hA47 0 6 rfl).1]; exact hL19
  have hF51 : ∀ j : Nat, (σ14.1 15 j).toInt = (σ44.1 2 j).toInt := fun j => by rw [(hA47 2 j rfl).1]; exact hF20 j
  have hD52 : ∀ j : Nat, (σ14.1 16 j).toInt = (σ44.1 3 j).toInt := fun j => by rw [(hA47 3 j rfl).1]; exact hD21 j
  have hSL53 : ∀ j : Nat, zl_R (σ14.1 37 j) (σ44.1 24 j) := fun j => by rw [(hA47 24 j rfl).1]; exact hSL22 j
  have hSN54 : ∀ j : Nat, (σ14.1 38 j).toInt = (σ44.1 25 j).toInt := fun j => by rw [(hA47 25 j rfl).1]; exact hSN23 j
  have hSC55 : zl_SC σ14 σ44 := hSC24.m hA47 (fun _ => rfl)
  have hW56 : zl_W σ14 σ44 := hW25.m hA47 (fun _ => rfl) rfl
  have hBY57 : zl_B σ14 σ44 := hBY26.m hA47 (fun _ => rfl)
  have hFA58 : (σ14.1 2 3).toInt = (σ44.1 0 7).toInt := by rw [(hA47 0 7 rfl).1]; exact hFA27
  have hE59 : zl_E σ14 σ44 := hE28.m hA47 rfl (fun _ => rfl) (fun _ => rfl) (fun _ => rfl)
  have hK60 : zw_K σ44 := zw_K.ag hK29 hA47 rfl (fun _ => rfl) (fun _ => rfl)
  have hNT61 : zl_N σ14 σ44 := hNT30.m hA47 rfl (fun _ => rfl) (fun _ => rfl) (fun _ => rfl)
  refine zr_pop hB dL_law_1404 rfl ?_
  refine zr_goto hB dL_law_1405 (tgt := 1780) rfl ?_
  exact kk _ _ ⟨hO16, hO46, hT48, hN49, hL50, hF51, hD52, hSL53, hSN54, hSC55, hW56, hBY57, hFA58, hE59, hK60, hNT61⟩

theorem lc_22 {K : zc_K} {G : zc_X} {Z : zl_T} (hG : zl_G K G Z) {σX σM : zc_S} {i : Int32} {ni : Nat} (hi : i.toInt = (ni : Int)) (h9 : ni + 9 ≤ zt_L Z) (hv : zl_v σX σM) (kk : ∀ σX' σM', zl_v σX' σM' → zc_V 4 K G (zl_I K G Z σX' σM') [(3, .int i), (2, .ref (zt_M Z 0)), (1, .ref (zt_X Z 0)), (0, .ref (zt_b Z))] 1780 []) : zc_V 4 K G (zl_I K G Z σX σM) [(3, .int i), (2, .ref (zt_M Z 0)), (1, .ref (zt_X Z 0)), (0, .ref (zt_b Z))] 1408 [] := by
  obtain ⟨hOX, hOM, hT, hN, hL, hF, hD, hSL, hSN, hSC, hW, hBY, hFA, hE, hK, hNT⟩ := hv
  have hB := hG.1
  have hZ := hG.2.2.2.2.2.2.1
  refine zr_aload_n hB 2 dL_law_1408 rfl ?_
  refine zr_aload_n hB 3 dL_law_1409 rfl ?_
  refine zr_iload_n hB 0 dL_law_1410 rfl ?_
  refine zr_iconst hB dL_law_1411 rfl (fun z1 hz1 => ?_)
  refine zr_iadd hB dL_law_1412 (by omega) (by omega) (fun z2 hz2 => ?_)
  refine zl_sld hG (ni + 1) dL_law_1413 (by omega) (by omega) ?_
  clear hz1 hz2
  refine zr_aload_n hB 3 dL_law_1414 rfl ?_
  refine zr_iload_n hB 0 dL_law_1415 rfl ?_
  refine zr_iconst hB dL_law_1416 rfl (fun z3 hz3 => ?_)
  refine zr_iadd hB dL_law_1417 (by omega) (by omega) (fun z4 hz4 => ?_)
  refine zl_sld hG (ni + 2) dL_law_1418 (by omega) (by omega) ?_
  clear hz3 hz4
  refine zr_aload_n hB 3 dL_law_1419 rfl ?_
  refine zr_iload_n hB 0 dL_law_1420 rfl ?_
  refine zr_iconst hB dL_law_1421 rfl (fun z5 hz5 => ?_)
  refine zr_iadd hB dL_law_1422 (by omega) (by omega) (fun z6 hz6 => ?_)
  refine zl_sld hG (ni + 3) dL_law_1423 (by omega) (by omega) ?_
  clear hz5 hz6
  refine zl_callX hG (As := [.int (zt_x Z (ni + 1)), .int (zt_x Z (ni + 2)), .int (zt_x Z (ni + 3))]) (rest := []) dL_law_1424 wm_L_115 rfl (c_X8_change_0 (zl_K K (zt_X Z)) hG.2.2.2.2.2.2.2.2.2.1 σX (zt_x Z (ni + 1)) (zt_x Z (ni + 2)) (zt_x Z (ni + 3)) hOX ) rfl rfl (Nat.le_of_ble_eq_true rfl) ⟨(Nat.le_of_ble_eq_true rfl), (Nat.le_of_ble_eq_true rfl), rfl, rfl⟩ (fun r7 σ8 h9 => ?_)
  obtain rfl := h9
  refine zr_pop hB dL_law_1427 rfl ?_
  refine zr_aload_n hB 1 dL_law_1428 rfl ?_
  refine zr_aload_n hB 3 dL_law_1429 rfl ?_
  refine zr_iload_n hB 0 dL_law_1430 rfl ?_
  refine zr_iconst hB dL_law_1431 rfl (fun z10 hz10 => ?_)
  refine zr_iadd hB dL_law_1432 (by omega) (by omega) (fun z11 hz11 => ?_)
  refine zl_sld hG (ni + 1) dL_law_1433 (by omega) (by omega) ?_
  clear hz10 hz11
  refine zr_aload_n hB 3 dL_law_1434 rfl ?_
  refine zr_iload_n hB 0 dL_law_1435 rfl ?_
  refine zr_iconst hB dL_law_1436 rfl (fun z12 hz12 => ?_)
  refine zr_iadd hB dL_law_1437 (by omega) (by omega) (fun z13 hz13 => ?_)
  refine zl_sld hG (ni + 2) dL_law_1438 (by omega) (by omega) ?_
  clear hz12 hz13
  refine zr_aload_n hB 3 dL_law_1439 rfl ?_
  refine zr_iload_n hB 0 dL_law_1440 rfl ?_
  refine zr_iconst hB dL_law_1441 rfl (fun z14 hz14 => ?_)
  refine zr_iadd hB dL_law_1442 (by omega) (by omega) (fun z15 hz15 => ?_)
  refine zl_sld hG (ni + 3) dL_law_1443 (by omega) (by omega) ?_
  clear hz14 hz15
  refine zl_callM hG (As := [.int (zt_x Z (ni + 1)), .int (zt_x Z (ni + 2)), .int (zt_x Z (ni + 3))]) (rest := []) dL_law_1444 wm_L_118 rfl (c_M_change (zl_K K (zt_M Z)) hG.2.2.2.2.2.2.2.2.2.2.1 σM (zt_x Z (ni + 1)) (zt_x Z (ni + 2)) (zt_x Z (ni + 3)) hOM ) rfl rfl (Nat.le_of_ble_eq_true rfl) ⟨(Nat.le_of_ble_eq_true rfl), (Nat.le_of_ble_eq_true rfl), rfl, rfl⟩ (fun r16 σ17 h18 => ?_)
  obtain rfl := h18
  refine zr_pop hB dL_law_1447 rfl ?_
  refine zr_goto hB dL_law_1448 (tgt := 1780) rfl ?_
  exact kk _ _ ⟨hOX, hOM, hT, hN, hL, hF, hD, hSL, hSN, hSC, hW, hBY, hFA, hE, hK, hNT⟩

theorem lc_23 {K : zc_K} {G : zc_X} {Z : zl_T} (hG : zl_G K G Z) {σX σM : zc_S} {i : Int32} {ni : Nat} (hi : i.toInt = (ni : Int)) (h9 : ni + 9 ≤ zt_L Z) (hv : zl_v σX σM) (kk : ∀ σX' σM', zl_v σX' σM' → zc_V 4 K G (zl_I K G Z σX' σM') [(3, .int i), (2, .ref (zt_M Z 0)), (1, .ref (zt_X Z 0)), (0, .ref (zt_b Z))] 1780 []) : zc_V 4 K G (zl_I K G Z σX σM) [(3, .int i), (2, .ref (zt_M Z 0)), (1, .ref (zt_X Z 0)), (0, .ref (zt_b Z))] 1451 [] := by
  obtain ⟨hOX, hOM, hT, hN, hL, hF, hD, hSL, hSN, hSC, hW, hBY, hFA, hE, hK, hNT⟩ := hv
  have hB := hG.1
  have hZ := hG.2.2.2.2.2.2.1
  refine zr_aload_n hB 2 dL_law_1451 rfl ?_
  refine zr_aload_n hB 3 dL_law_1452 rfl ?_
  refine zr_iload_n hB 0 dL_law_1453 rfl ?_
  refine zr_iconst hB dL_law_1454 rfl (fun z1 hz1 => ?_)
  refine zr_iadd hB dL_law_1455 (by omega) (by omega) (fun z2 hz2 => ?_)
  refine zl_sld hG (ni + 1) dL_law_1456 (by omega) (by omega) ?_
  clear hz1 hz2
  refine zr_aload_n hB 3 dL_law_1457 rfl ?_
  refine zr_iload_n hB 0 dL_law_1458 rfl ?_
  refine zr_iconst hB dL_law_1459 rfl (fun z3 hz3 => ?_)
  refine zr_iadd hB dL_law_1460 (by omega) (by omega) (fun z4 hz4 => ?_)
  refine zl_sld hG (ni + 2) dL_law_1461 (by omega) (by omega) ?_
  clear hz3 hz4
  refine zr_aload_n hB 3 dL_law_1462 rfl ?_
  refine zr_iload_n hB 0 dL_law_1463 rfl ?_
  refine zr_iconst hB dL_law_1464 rfl (fun z5 hz5 => ?_)
  refine zr_iadd hB dL_law_1465 (by omega) (by omega) (fun z6 hz6 => ?_)
  refine zl_sld hG (ni + 3) dL_law_1466 (by omega) (by omega) ?_
  clear hz5 hz6
  refine zr_aload_n hB 3 dL_law_1467 rfl ?_
  refine zr_iload_n hB 0 dL_law_1468 rfl ?_
  refine zr_iconst hB dL_law_1469 rfl (fun z7 hz7 => ?_)
  refine zr_iadd hB dL_law_1470 (by omega) (by omega) (fun z8 hz8 => ?_)
  refine zl_sld hG (ni + 4) dL_law_1471 (by omega) (by omega) ?_
  clear hz7 hz8
  refine zl_callX hG (As := [.int (zt_x Z (ni + 1)), .int (zt_x Z (ni + 2)), .int (zt_x Z (ni + 3)), .int (zt_x Z (ni + 4))]) (rest := []) dL_law_1472 wm_L_119 rfl (c_X8_note_0 (zl_K K (zt_X Z)) hG.2.2.2.2.2.2.2.2.2.1 σX (zt_x Z (ni + 1)) (zt_x Z (ni + 2)) (zt_x Z (ni + 3)) (zt_x Z (ni + 4)) hOX ) rfl rfl (Nat.le_of_ble_eq_true rfl) ⟨(Nat.le_of_ble_eq_true rfl), (Nat.le_of_ble_eq_true rfl), rfl, rfl⟩ (fun r9 σ10 h11 => ?_)
  obtain ⟨hO12, hA13, g14⟩ := h11
  have hN15 : (σ10.1 1 0).toInt = (σM.1 0 1).toInt := by rw [(hA13 1 0 rfl).1]; exact hN
  have hL16 : (σ10.1 2 1).toInt = (σM.1 0 6).toInt := by rw [(hA13 2 1 rfl).1]; exact hL
  have hF17 : ∀ j : Nat, (σ10.1 15 j).toInt = (σM.1 2 j).toInt := fun j => by rw [(hA13 15 j rfl).1]; exact hF j
  have hD18 : ∀ j : Nat, (σ10.1 16 j).toInt = (σM.1 3 j).toInt := fun j => by rw [(hA13 16 j rfl).1]; exact hD j
  have hSL19 : ∀ j : Nat, zl_R (σ10.1 37 j) (σM.1 24 j) := fun j => by rw [(hA13 37 j rfl).1]; exact hSL j
  have hSN20 : ∀ j : Nat, (σ10.1 38 j).toInt = (σM.1 25 j).toInt := fun j => by rw [(hA13 38 j rfl).1]; exact hSN j
  have hSC21 : zl_SC σ10 σM := hSC.x hA13 (fun _ => rfl) (fun _ => rfl)
  have hW22 : zl_W σ10 σM := hW.x hA13 rfl (fun _ => rfl) (fun _ => rfl) (fun _ => rfl) (fun _ => rfl)
  have hBY23 : zl_B σ10 σM := hBY.x hA13 rfl (fun _ => rfl)
  have hFA24 : (σ10.1 2 3).toInt = (σM.1 0 7).toInt := by rw [(hA13 2 3 rfl).1]; exact hFA
  have hE25 : zl_E σ10 σM := hE.x hA13 rfl (fun _ => rfl) (fun _ => rfl) (fun _ => rfl)
  have hK26 : zw_K σM := hK
  refine zr_pop hB dL_law_1475 rfl ?_
  refine zr_aload_n hB 1 dL_law_1476 rfl ?_
  refine zr_aload_n hB 3 dL_law_1477 rfl ?_
  refine zr_iload_n hB 0 dL_law_1478 rfl ?_
  refine zr_iconst hB dL_law_1479 rfl (fun z28 hz28 => ?_)
  refine zr_iadd hB dL_law_1480 (by omega) (by omega) (fun z29 hz29 => ?_)
  refine zl_sld hG (ni + 1) dL_law_1481 (by omega) (by omega) ?_
  clear hz28 hz29
  refine zr_aload_n hB 3 dL_law_1482 rfl ?_
  refine zr_iload_n hB 0 dL_law_1483 rfl ?_
  refine zr_iconst hB dL_law_1484 rfl (fun z30 hz30 => ?_)
  refine zr_iadd hB dL_law_1485 (by omega) (by omega) (fun z31 hz31 => ?_)
  refine zl_sld hG (ni + 2) dL_law_1486 (by omega) (by omega) ?_
  clear hz30 hz31
  refine zr_aload_n hB 3 dL_law_1487 rfl ?_
  refine zr_iload_n hB 0 dL_law_1488 rfl ?_
  refine zr_iconst hB dL_law_1489 rfl (fun z32 hz32 => ?_)
  refine zr_iadd hB dL_law_1490 (by omega) (by omega) (fun z33 hz33 => ?_)
  refine zl_sld hG (ni + 3) dL_law_1491 (by omega) (by omega) ?_
  clear hz32 hz33
  refine zr_aload_n hB 3 dL_law_1492 rfl ?_
  refine zr_iload_n hB 0 dL_law_1493 rfl ?_
  refine zr_iconst hB dL_law_1494 rfl (fun z34 hz34 => ?_)
  refine zr_iadd hB dL_law_1495 (by omega) (by omega) (fun z35 hz35 => ?_)
  refine zl_sld hG (ni + 4) dL_law_1496 (by omega) (by omega) ?_
  clear hz34 hz35
  refine zl_callM hG (As := [.int (zt_x Z (ni + 1)), .int (zt_x Z (ni + 2)), .int (zt_x Z (ni + 3)), .int (zt_x Z (ni + 4))]) (rest := []) dL_law_1497 wm_L_122 rfl (c_M_note (zl_K K (zt_M Z)) hG.2.2.2.2.2.2.2.2.2.2.1 σM (zt_x Z (ni + 1)) (zt_x Z (ni + 2)) (zt_x Z (ni + 3)) (zt_x Z (ni + 4)) hOM hT) rfl rfl (Nat.le_of_ble_eq_true rfl) ⟨(Nat.le_of_ble_eq_true rfl), (Nat.le_of_ble_eq_true rfl), rfl, rfl⟩ (fun r36 σ37 h38 => ?_)
  obtain ⟨hO39, hA40, g41⟩ := h38
  have hT42 := zm_T.ag hT hA40 rfl (fun _ => rfl) (fun _ => rfl)
  have hN43 : (σ10.1 1 0).toInt = (σ37.1 0 1).toInt := by rw [(hA40 0 1 rfl).1]; exact hN15
  have hL44 : (σ10.1 2 1).toInt = (σ37.1 0 6).toInt := by rw [(hA40 0 6 rfl).1]; exact hL16
  have hF45 : ∀ j : Nat, (σ10.1 15 j).toInt = (σ37.1 2 j).toInt := fun j => by rw [(hA40 2 j rfl).1]; exact hF17 j
  have hD46 : ∀ j : Nat, (σ10.1 16 j).toInt = (σ37.1 3 j).toInt := fun j => by rw [(hA40 3 j rfl).1]; exact hD18 j
  have hSL47 : ∀ j : Nat, zl_R (σ10.1 37 j) (σ37.1 24 j) := fun j => by rw [(hA40 24 j rfl).1]; exact hSL19 j
  have hSN48 : ∀ j : Nat, (σ10.1 38 j).toInt = (σ37.1 25 j).toInt := fun j => by rw [(hA40 25 j rfl).1]; exact hSN20 j
  have hSC49 : zl_SC σ10 σ37 := hSC21.m hA40 (fun _ => rfl)
  have hW50 : zl_W σ10 σ37 := hW22.m hA40 (fun _ => rfl) rfl
  have hBY51 : zl_B σ10 σ37 := hBY23.m hA40 (fun _ => rfl)
  have hFA52 : (σ10.1 2 3).toInt = (σ37.1 0 7).toInt := by rw [(hA40 0 7 rfl).1]; exact hFA24
  have hE53 : zl_E σ10 σ37 := hE25.m hA40 rfl (fun _ => rfl) (fun _ => rfl) (fun _ => rfl)
  have hK54 : zw_K σ37 := zw_K.ag hK26 hA40 rfl (fun _ => rfl) (fun _ => rfl)
  have hNT55 : zl_N σ10 σ37 := (zp_note (g14 (zp_Zof hE hT)) g41 (by have e9 : (σX.1 3 0).toInt = (σM.1 0 17).toInt := hE.1; constructor <;> intro h9 <;> omega) hNT.1 (fun hv => zp_Bq hW hF hE (by omega) (by omega) (by omega) hN (hOX 1 0).1 (hOX 1 0).2.1 (by omega)) (fun a b => zl_Ne hNT a b) (fun a b => zl_Na hNT a b rfl (by omega))).2
  refine zr_pop hB dL_law_1500 rfl ?_
  refine zr_goto hB dL_law_1501 (tgt := 1780) rfl ?_
  exact kk _ _ ⟨hO12, hO39, hT42, hN43, hL44, hF45, hD46, hSL47, hSN48, hSC49, hW50, hBY51, hFA52, hE53, hK54, hNT55⟩

