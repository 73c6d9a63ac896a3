theorem jgw_of {w : Cond} (h : w ∈ tables_1) (hg : goodWord w = true) : w ∈ jgw := List.mem_filter.mpr ⟨List.mem_append_right _ h, hg⟩
theorem jnw_of {w : Cond} (h : w ∈ tables_1) (hg : jisN w = true) : w ∈ jnw := List.mem_filter.mpr ⟨h, hg⟩
theorem jtb_1 {i : Nat} {w : Cond} (h : tables_1_1[i]? = some w) : w ∈ tables_1 := by unfold tables_1; exact List.mem_append_left _ (List.mem_of_getElem? h)
theorem jtb_2 {i : Nat} {w : Cond} (h : tables_1_2[i]? = some w) : w ∈ tables_1 := by unfold tables_1; exact List.mem_append_right _ (List.mem_append_left _ (List.mem_of_getElem? h))
theorem jtb_3 {i : Nat} {w : Cond} (h : tables_1_3[i]? = some w) : w ∈ tables_1 := by unfold tables_1; exact List.mem_append_right _ (List.mem_append_right _ (List.mem_append_left _ (List.mem_of_getElem? h)))
theorem jtb_4 {i : Nat} {w : Cond} (h : tables_1_4[i]? = some w) : w ∈ tables_1 := by unfold tables_1; exact List.mem_append_right _ (List.mem_append_right _ (List.mem_append_right _ (List.mem_append_left _ (List.mem_of_getElem? h))))
theorem jtb_5 {i : Nat} {w : Cond} (h : tables_1_5[i]? = some w) : w ∈ tables_1 := by unfold tables_1; exact List.mem_append_right _ (List.mem_append_right _ (List.mem_append_right _ (List.mem_append_right _ (List.mem_append_left _ (List.mem_of_getElem? h)))))
theorem jtb_6 {i : Nat} {w : Cond} (h : tables_1_6[i]? = some w) : w ∈ tables_1 := by unfold tables_1; exact List.mem_append_right _ (List.mem_append_right _ (List.mem_append_right _ (List.mem_append_right _ (List.mem_append_right _ (List.mem_append_left _ (List.mem_of_getElem? h))))))
theorem jtb_7 {i : Nat} {w : Cond} (h : tables_1_7[i]? = some w) : w ∈ tables_1 := by unfold tables_1; exact List.mem_append_right _ (List.mem_append_right _ (List.mem_append_right _ (List.mem_append_right _ (List.mem_append_right _ (List.mem_append_right _ (List.mem_of_getElem? h))))))
set_option maxRecDepth 100000 in
theorem inX0 : ∀ w ∈ u_ws RX0 TX0 9, w ∈ jgw := by decide +kernel
set_option maxRecDepth 100000 in
theorem inX1 : ∀ w ∈ u_ws RX1 TX1 5, w ∈ jgw := by decide +kernel
set_option maxRecDepth 100000 in
theorem inX2 : ∀ w ∈ u_ws RX2 TX2 4, w ∈ jgw := by decide +kernel
set_option maxRecDepth 100000 in
theorem inX3 : ∀ w ∈ u_ws RX3 TX3 8, w ∈ jgw := by decide +kernel
set_option maxRecDepth 100000 in
theorem inX4 : ∀ w ∈ u_ws RX4 TX4 17, w ∈ jgw := by decide +kernel
set_option maxRecDepth 100000 in
theorem inX5 : ∀ w ∈ u_ws RX5 TX5 14, w ∈ jgw := by decide +kernel
set_option maxRecDepth 100000 in
theorem inX6 : ∀ w ∈ u_ws RX6 TX6 6, w ∈ jgw := by decide +kernel
set_option maxRecDepth 100000 in
theorem inX7 : ∀ w ∈ u_ws RX7 TX7 12, w ∈ jgw := by decide +kernel
set_option maxRecDepth 100000 in
theorem inX8 : ∀ w ∈ u_ws RX8 TX8 37, w ∈ jgw := by decide +kernel
theorem kf_X4_9 : jFL RX4 9 4 17 0 := ⟨RX4, TX4, rfl, inX4, by decide, rfl, Or.inl (jgw_of (jtb_1 (i := 35) rfl) rfl)⟩
theorem kp_X4_9 : jFP RX4 9 4 17 0 (tyX4 0) false := ⟨RX4, TX4, tyX4, rfl, inX4, by decide, rfl, Or.inl (jgw_of (jtb_1 (i := 35) rfl) rfl), tyX4_ok, nmX4, rfl, rfl⟩
theorem kf_X7_86 : jFL RX7 86 4 17 0 := ⟨RX4, TX4, rfl, inX4, by decide, rfl, Or.inr ⟨"SkinShow", jnw_of (jtb_1 (i := 36) rfl) rfl⟩⟩
theorem kp_X7_86 : jFP RX7 86 4 17 0 (tyX4 0) false := ⟨RX4, TX4, tyX4, rfl, inX4, by decide, rfl, Or.inr ⟨rfl, "SkinShow", jnw_of (jtb_1 (i := 36) rfl) rfl⟩, tyX4_ok, nmX4, rfl, rfl⟩
theorem kf_X2_30 : jFL RX2 30 4 17 0 := ⟨RX4, TX4, rfl, inX4, by decide, rfl, Or.inr ⟨"SkinShow", jnw_of (jtb_1 (i := 37) rfl) rfl⟩⟩
theorem kp_X2_30 : jFP RX2 30 4 17 0 (tyX4 0) false := ⟨RX4, TX4, tyX4, rfl, inX4, by decide, rfl, Or.inr ⟨rfl, "SkinShow", jnw_of (jtb_1 (i := 37) rfl) rfl⟩, tyX4_ok, nmX4, rfl, rfl⟩
theorem kf_X4_15 : jFL RX4 15 4 17 1 := ⟨RX4, TX4, rfl, inX4, by decide, rfl, Or.inl (jgw_of (jtb_1 (i := 38) rfl) rfl)⟩
theorem kp_X4_15 : jFP RX4 15 4 17 1 (tyX4 1) true := ⟨RX4, TX4, tyX4, rfl, inX4, by decide, rfl, Or.inl (jgw_of (jtb_1 (i := 38) rfl) rfl), tyX4_ok, nmX4, rfl, rfl⟩
theorem kf_X7_94 : jFL RX7 94 4 17 1 := ⟨RX4, TX4, rfl, inX4, by decide, rfl, Or.inr ⟨"SkinShow", jnw_of (jtb_1 (i := 39) rfl) rfl⟩⟩
theorem kf_X4_19 : jFL RX4 19 4 17 2 := ⟨RX4, TX4, rfl, inX4, by decide, rfl, Or.inl (jgw_of (jtb_1 (i := 40) rfl) rfl)⟩
theorem kp_X4_19 : jFP RX4 19 4 17 2 (tyX4 2) true := ⟨RX4, TX4, tyX4, rfl, inX4, by decide, rfl, Or.inl (jgw_of (jtb_1 (i := 40) rfl) rfl), tyX4_ok, nmX4, rfl, rfl⟩
theorem kf_X7_97 : jFL RX7 97 4 17 2 := ⟨RX4, TX4, rfl, inX4, by decide, rfl, Or.inr ⟨"SkinShow", jnw_of (jtb_1 (i := 41) rfl) rfl⟩⟩
theorem kf_X4_22 : jFL RX4 22 4 17 3 := ⟨RX4, TX4, rfl, inX4, by decide, rfl, Or.inl (jgw_of (jtb_1 (i := 42) rfl) rfl)⟩
theorem kp_X4_22 : jFP RX4 22 4 17 3 (tyX4 3) true := ⟨RX4, TX4, tyX4, rfl, inX4, by decide, rfl, Or.inl (jgw_of (jtb_1 (i := 42) rfl) rfl), tyX4_ok, nmX4, rfl, rfl⟩
theorem kf_X7_100 : jFL RX7 100 4 17 3 := ⟨RX4, TX4, rfl, inX4, by decide, rfl, Or.inr ⟨"SkinShow", jnw_of (jtb_1 (i := 43) rfl) rfl⟩⟩
theorem kf_X4_25 : jFL RX4 25 4 17 4 := ⟨RX4, TX4, rfl, inX4, by decide, rfl, Or.inl (jgw_of (jtb_1 (i := 44) rfl) rfl)⟩
theorem kp_X4_25 : jFP RX4 25 4 17 4 (tyX4 4) true := ⟨RX4, TX4, tyX4, rfl, inX4, by decide, rfl, Or.inl (jgw_of (jtb_1 (i := 44) rfl) rfl), tyX4_ok, nmX4, rfl, rfl⟩
theorem kf_X7_103 : jFL RX7 103 4 17 4 := ⟨RX4, TX4, rfl, inX4, by decide, rfl, Or.inr ⟨"SkinShow", jnw_of (jtb_1 (i := 45) rfl) rfl⟩⟩
theorem kf_X4_28 : jFL RX4 28 4 17 5 := ⟨RX4, TX4, rfl, inX4, by decide, rfl, Or.inl (jgw_of (jtb_1 (i := 46) rfl) rfl)⟩
theorem kp_X4_28 : jFP RX4 28 4 17 5 (tyX4 5) true := ⟨RX4, TX4, tyX4, rfl, inX4, by decide, rfl, Or.inl (jgw_of (jtb_1 (i := 46) rfl) rfl), tyX4_ok, nmX4, rfl, rfl⟩
theorem kf_X7_106 : jFL RX7 106 4 17 5 := ⟨RX4, TX4, rfl, inX4, by decide, rfl, Or.inr ⟨"SkinShow", jnw_of (jtb_1 (i := 47) rfl) rfl⟩⟩
theorem kf_X4_31 : jFL RX4 31 4 17 6 := ⟨RX4, TX4, rfl, inX4, by decide, rfl, Or.inl (jgw_of (jtb_1 (i := 48) rfl) rfl)⟩
theorem kp_X4_31 : jFP RX4 31 4 17 6 (tyX4 6) true := ⟨RX4, TX4, tyX4, rfl, inX4, by decide, rfl, Or.inl (jgw_of (jtb_1 (i := 48) rfl) rfl), tyX4_ok, nmX4, rfl, rfl⟩
theorem kf_X7_109 : jFL RX7 109 4 17 6 := ⟨RX4, TX4, rfl, inX4, by decide, rfl, Or.inr ⟨"SkinShow", jnw_of (jtb_1 (i := 49) rfl) rfl⟩⟩
theorem kf_X4_34 : jFL RX4 34 4 17 7 := ⟨RX4, TX4, rfl, inX4, by decide, rfl, Or.inl (jgw_of (jtb_1 (i := 50) rfl) rfl)⟩
theorem kp_X4_34 : jFP RX4 34 4 17 7 (tyX4 7) true := ⟨RX4, TX4, tyX4, rfl, inX4, by decide, rfl, Or.inl (jgw_of (jtb_1 (i := 50) rfl) rfl), tyX4_ok, nmX4, rfl, rfl⟩
theorem kf_X7_81 : jFL RX7 81 4 17 7 := ⟨RX4, TX4, rfl, inX4, by decide, rfl, Or.inr ⟨"SkinShow", jnw_of (jtb_1 (i := 51) rfl) rfl⟩⟩
theorem kf_X4_37 : jFL RX4 37 4 17 8 := ⟨RX4, TX4, rfl, inX4, by decide, rfl, Or.inl (jgw_of (jtb_1 (i := 52) rfl) rfl)⟩
theorem kp_X4_37 : jFP RX4 37 4 17 8 (tyX4 8) true := ⟨RX4, TX4, tyX4, rfl, inX4, by decide, rfl, Or.inl (jgw_of (jtb_1 (i := 52) rfl) rfl), tyX4_ok, nmX4, rfl, rfl⟩
theorem kf_X0_54 : jFL RX0 54 4 17 8 := ⟨RX4, TX4, rfl, inX4, by decide, rfl, Or.inr ⟨"SkinShow", jnw_of (jtb_1 (i := 53) rfl) rfl⟩⟩
theorem kf_X7_152 : jFL RX7 152 4 17 8 := ⟨RX4, TX4, rfl, inX4, by decide, rfl, Or.inr ⟨"SkinShow", jnw_of (jtb_1 (i := 54) rfl) rfl⟩⟩
theorem kf_X4_40 : jFL RX4 40 4 17 9 := ⟨RX4, TX4, rfl, inX4, by decide, rfl, Or.inl (jgw_of (jtb_1 (i := 55) rfl) rfl)⟩
theorem kp_X4_40 : jFP RX4 40 4 17 9 (tyX4 9) true := ⟨RX4, TX4, tyX4, rfl, inX4, by decide, rfl, Or.inl (jgw_of (jtb_1 (i := 55) rfl) rfl), tyX4_ok, nmX4, rfl, rfl⟩
theorem kf_X7_127 : jFL RX7 127 4 17 9 := ⟨RX4, TX4, rfl, inX4, by decide, rfl, Or.inr ⟨"SkinShow", jnw_of (jtb_1 (i := 56) rfl) rfl⟩⟩
theorem kf_X4_43 : jFL RX4 43 4 17 10 := ⟨RX4, TX4, rfl, inX4, by decide, rfl, Or.inl (jgw_of (jtb_1 (i := 57) rfl) rfl)⟩
theorem kp_X4_43 : jFP RX4 43 4 17 10 (tyX4 10) true := ⟨RX4, TX4, tyX4, rfl, inX4, by decide, rfl, Or.inl (jgw_of (jtb_1 (i := 57) rfl) rfl), tyX4_ok, nmX4, rfl, rfl⟩
theorem kf_X7_134 : jFL RX7 134 4 17 10 := ⟨RX4, TX4, rfl, inX4, by decide, rfl, Or.inr ⟨"SkinShow", jnw_of (jtb_1 (i := 58) rfl) rfl⟩⟩
theorem kf_X4_46 : jFL RX4 46 4 17 11 := ⟨RX4, TX4, rfl, inX4, by decide, rfl, Or.inl (jgw_of (jtb_1 (i := 59) rfl) rfl)⟩
theorem kp_X4_46 : jFP RX4 46 4 17 11 (tyX4 11) true := ⟨RX4, TX4, tyX4, rfl, inX4, by decide, rfl, Or.inl (jgw_of (jtb_1 (i := 59) rfl) rfl), tyX4_ok, nmX4, rfl, rfl⟩
theorem kf_X7_137 : jFL RX7 137 4 17 11 := ⟨RX4, TX4, rfl, inX4, by decide, rfl, Or.inr ⟨"SkinShow", jnw_of (jtb_1 (i := 60) rfl) rfl⟩⟩
theorem kf_X3_83 : jFL RX3 83 4 17 11 := ⟨RX4, TX4, rfl, inX4, by decide, rfl, Or.inr ⟨"SkinShow", jnw_of (jtb_1 (i := 61) rfl) rfl⟩⟩
theorem kf_X4_49 : jFL RX4 49 4 17 12 := ⟨RX4, TX4, rfl, inX4, by decide, rfl, Or.inl (jgw_of (jtb_1 (i := 62) rfl) rfl)⟩
theorem kp_X4_49 : jFP RX4 49 4 17 12 (tyX4 12) true := ⟨RX4, TX4, tyX4, rfl, inX4, by decide, rfl, Or.inl (jgw_of (jtb_1 (i := 62) rfl) rfl), tyX4_ok, nmX4, rfl, rfl⟩
theorem kf_X7_146 : jFL RX7 146 4 17 12 := ⟨RX4, TX4, rfl, inX4, by decide, rfl, Or.inr ⟨"SkinShow", jnw_of (jtb_1 (i := 63) rfl) rfl⟩⟩
theorem kf_X3_92 : jFL RX3 92 4 17 12 := ⟨RX4, TX4, rfl, inX4, by decide, rfl, Or.inr ⟨"SkinShow", jnw_of (jtb_1 (i := 64) rfl) rfl⟩⟩
theorem kf_X4_52 : jFL RX4 52 4 17 13 := ⟨RX4, TX4, rfl, inX4, by decide, rfl, Or.inl (jgw_of (jtb_1 (i := 65) rfl) rfl)⟩
theorem kp_X4_52 : jFP RX4 52 4 17 13 (tyX4 13) false := ⟨RX4, TX4, tyX4, rfl, inX4, by decide, rfl, Or.inl (jgw_of (jtb_1 (i := 65) rfl) rfl), tyX4_ok, nmX4, rfl, rfl⟩
theorem kf_X6_55 : jFL RX6 55 4 17 13 := ⟨RX4, TX4, rfl, inX4, by decide, rfl, Or.inr ⟨"SkinShow", jnw_of (jtb_1 (i := 66) rfl) rfl⟩⟩
theorem kp_X6_55 : jFP RX6 55 4 17 13 (tyX4 13) false := ⟨RX4, TX4, tyX4, rfl, inX4, by decide, rfl, Or.inr ⟨rfl, "SkinShow", jnw_of (jtb_1 (i := 66) rfl) rfl⟩, tyX4_ok, nmX4, rfl, rfl⟩
theorem kf_X7_158 : jFL RX7 158 4 17 13 := ⟨RX4, TX4, rfl, inX4, by decide, rfl, Or.inr ⟨"SkinShow", jnw_of (jtb_1 (i := 67) rfl) rfl⟩⟩
theorem kp_X7_158 : jFP RX7 158 4 17 13 (tyX4 13) false := ⟨RX4, TX4, tyX4, rfl, inX4, by decide, rfl, Or.inr ⟨rfl, "SkinShow", jnw_of (jtb_1 (i := 67) rfl) rfl⟩, tyX4_ok, nmX4, rfl, rfl⟩
theorem kf_X4_55 : jFL RX4 55 4 17 14 := ⟨RX4, TX4, rfl, inX4, by decide, rfl, Or.inl (jgw_of (jtb_1 (i := 68) rfl) rfl)⟩
theorem kp_X4_55 : jFP RX4 55 4 17 14 (tyX4 14) false := ⟨RX4, TX4, tyX4, rfl, inX4, by decide, rfl, Or.inl (jgw_of (jtb_1 (i := 68) rfl) rfl), tyX4_ok, nmX4, rfl, rfl⟩
theorem kf_X6_50 : jFL RX6 50 4 17 14 := ⟨RX4, TX4, rfl, inX4, by decide, rfl, Or.inr ⟨"SkinShow", jnw_of (jtb_1 (i := 69) rfl) rfl⟩⟩
theorem kp_X6_50 : jFP RX6 50 4 17 14 (tyX4 14) false := ⟨RX4, TX4, tyX4, rfl, inX4, by decide, rfl, Or.inr ⟨rfl, "SkinShow", jnw_of (jtb_1 (i := 69) rfl) rfl⟩, tyX4_ok, nmX4, rfl, rfl⟩
theorem kf_X7_233 : jFL RX7 233 4 17 14 := ⟨RX4, TX4, rfl, inX4, by decide, rfl, Or.inr ⟨"SkinShow", jnw_of (jtb_1 (i := 70) rfl) rfl⟩⟩
theorem kp_X7_233 : jFP RX7 233 4 17 14 (tyX4 14) false := ⟨RX4, TX4, tyX4, rfl, inX4, by decide, rfl, Or.inr ⟨rfl, "SkinShow", jnw_of (jtb_1 (i := 70) rfl) rfl⟩, tyX4_ok, nmX4, rfl, rfl⟩
theorem kf_X4_58 : jFL RX4 58 4 17 15 := ⟨RX4, TX4, rfl, inX4, by decide, rfl, Or.inl (jgw_of (jtb_1 (i := 71) rfl) rfl)⟩
theorem kp_X4_58 : jFP RX4 58 4 17 15 (tyX4 15) false := ⟨RX4, TX4, tyX4, rfl, inX4, by decide, rfl, Or.inl (jgw_of (jtb_1 (i := 71) rfl) rfl), tyX4_ok, nmX4, rfl, rfl⟩
theorem kf_X7_300 : jFL RX7 300 4 17 15 := ⟨RX4, TX4, rfl, inX4, by decide, rfl, Or.inr ⟨"SkinShow", jnw_of (jtb_1 (i := 72) rfl) rfl⟩⟩
theorem kp_X7_300 : jFP RX7 300 4 17 15 (tyX4 15) false := ⟨RX4, TX4, tyX4, rfl, inX4, by decide, rfl, Or.inr ⟨rfl, "SkinShow", jnw_of (jtb_1 (i := 72) rfl) rfl⟩, tyX4_ok, nmX4, rfl, rfl⟩
theorem kf_X4_61 : jFL RX4 61 4 17 16 := ⟨RX4, TX4, rfl, inX4, by decide, rfl, Or.inl (jgw_of (jtb_1 (i := 73) rfl) rfl)⟩
theorem kp_X4_61 : jFP RX4 61 4 17 16 (tyX4 16) false := ⟨RX4, TX4, tyX4, rfl, inX4, by decide, rfl, Or.inl (jgw_of (jtb_1 (i := 73) rfl) rfl), tyX4_ok, nmX4, rfl, rfl⟩
theorem kf_X2_42 : jFL RX2 42 4 17 16 := ⟨RX4, TX4, rfl, inX4, by decide, rfl, Or.inr ⟨"SkinShow", jnw_of (jtb_1 (i := 74) rfl) rfl⟩⟩
theorem kp_X2_42 : jFP RX2 42 4 17 16 (tyX4 16) false := ⟨RX4, TX4, tyX4, rfl, inX4, by decide, rfl, Or.inr ⟨rfl, "SkinShow", jnw_of (jtb_1 (i := 74) rfl) rfl⟩, tyX4_ok, nmX4, rfl, rfl⟩
theorem kf_X7_318 : jFL RX7 318 4 17 16 := ⟨RX4, TX4, rfl, inX4, by decide, rfl, Or.inr ⟨"SkinShow", jnw_of (jtb_1 (i := 75) rfl) rfl⟩⟩
theorem kp_X7_318 : jFP RX7 318 4 17 16 (tyX4 16) false := ⟨RX4, TX4, tyX4, rfl, inX4, by decide, rfl, Or.inr ⟨rfl, "SkinShow", jnw_of (jtb_1 (i := 75) rfl) rfl⟩, tyX4_ok, nmX4, rfl, rfl⟩
theorem kf_X1_9 : jFL RX1 9 1 5 0 := ⟨RX1, TX1, rfl, inX1, by decide, rfl, Or.inl (jgw_of (jtb_1 (i := 120) rfl) rfl)⟩
theorem kp_X1_9 : jFP RX1 9 1 5 0 (tyX1 0) true := ⟨RX1, TX1, tyX1, rfl, inX1, by decide, rfl, Or.inl (jgw_of (jtb_1 (i := 120) rfl) rfl), tyX1_ok, nmX1, rfl, rfl⟩
theorem kf_X7_192 : jFL RX7 192 1 5 0 := ⟨RX1, TX1, rfl, inX1, by decide, rfl, Or.inr ⟨"SkinShow", jnw_of (jtb_1 (i := 121) rfl) rfl⟩⟩
theorem kf_X1_15 : jFL RX1 15 1 5 1 := ⟨RX1, TX1, rfl, inX1, by decide, rfl, Or.inl (jgw_of (jtb_1 (i := 122) rfl) rfl)⟩
theorem kp_X1_15 : jFP RX1 15 1 5 1 (tyX1 1) true := ⟨RX1, TX1, tyX1, rfl, inX1, by decide, rfl, Or.inl (jgw_of (jtb_1 (i := 122) rfl) rfl), tyX1_ok, nmX1, rfl, rfl⟩
theorem kf_X7_196 : jFL RX7 196 1 5 1 := ⟨RX1, TX1, rfl, inX1, by decide, rfl, Or.inr ⟨"SkinShow", jnw_of (jtb_1 (i := 123) rfl) rfl⟩⟩
theorem kf_X1_20 : jFL RX1 20 1 5 2 := ⟨RX1, TX1, rfl, inX1, by decide, rfl, Or.inl (jgw_of (jtb_1 (i := 124) rfl) rfl)⟩
theorem kp_X1_20 : jFP RX1 20 1 5 2 (tyX1 2) true := ⟨RX1, TX1, tyX1, rfl, inX1, by decide, rfl, Or.inl (jgw_of (jtb_1 (i := 124) rfl) rfl), tyX1_ok, nmX1, rfl, rfl⟩
theorem kf_X7_200 : jFL RX7 200 1 5 2 := ⟨RX1, TX1, rfl, inX1, by decide, rfl, Or.inr ⟨"SkinShow", jnw_of (jtb_1 (i := 125) rfl) rfl⟩⟩
theorem kf_X1_23 : jFL RX1 23 1 5 3 := ⟨RX1, TX1, rfl, inX1, by decide, rfl, Or.inl (jgw_of (jtb_1 (i := 126) rfl) rfl)⟩
theorem kp_X1_23 : jFP RX1 23 1 5 3 (tyX1 3) true := ⟨RX1, TX1, tyX1, rfl, inX1, by decide, rfl, Or.inl (jgw_of (jtb_1 (i := 126) rfl) rfl), tyX1_ok, nmX1, rfl, rfl⟩
theorem kf_X1_26 : jFL RX1 26 1 5 4 := ⟨RX1, TX1, rfl, inX1, by decide, rfl, Or.inl (jgw_of (jtb_1 (i := 127) rfl) rfl)⟩
theorem kp_X1_26 : jFP RX1 26 1 5 4 (tyX1 4) true := ⟨RX1, TX1, tyX1, rfl, inX1, by decide, rfl, Or.inl (jgw_of (jtb_1 (i := 127) rfl) rfl), tyX1_ok, nmX1, rfl, rfl⟩
theorem kf_X5_9 : jFL RX5 9 5 14 0 := ⟨RX5, TX5, rfl, inX5, by decide, rfl, Or.inl (jgw_of (jtb_1 (i := 146) rfl) rfl)⟩
theorem kp_X5_9 : jFP RX5 9 5 14 0 (tyX5 0) true := ⟨RX5, TX5, tyX5, rfl, inX5, by decide, rfl, Or.inl (jgw_of (jtb_1 (i := 146) rfl) rfl), tyX5_ok, nmX5, rfl, rfl⟩
theorem kf_X5_15 : jFL RX5 15 5 14 1 := ⟨RX5, TX5, rfl, inX5, by decide, rfl, Or.inl (jgw_of (jtb_1 (i := 147) rfl) rfl)⟩
theorem kp_X5_15 : jFP RX5 15 5 14 1 (tyX5 1) false := ⟨RX5, TX5, tyX5, rfl, inX5, by decide, rfl, Or.inl (jgw_of (jtb_1 (i := 147) rfl) rfl), tyX5_ok, nmX5, rfl, rfl⟩
theorem kf_X7_224 : jFL RX7 224 5 14 1 := ⟨RX5, TX5, rfl, inX5, by decide, rfl, Or.inr ⟨"SkinShow", jnw_of (jtb_1 (i := 148) rfl) rfl⟩⟩
theorem kp_X7_224 : jFP RX7 224 5 14 1 (tyX5 1) false := ⟨RX5, TX5, tyX5, rfl, inX5, by decide, rfl, Or.inr ⟨rfl, "SkinShow", jnw_of (jtb_1 (i := 148) rfl) rfl⟩, tyX5_ok, nmX5, rfl, rfl⟩
theorem kf_X5_19 : jFL RX5 19 5 14 2 := ⟨RX5, TX5, rfl, inX5, by decide, rfl, Or.inl (jgw_of (jtb_1 (i := 149) rfl) rfl)⟩
theorem kp_X5_19 : jFP RX5 19 5 14 2 (tyX5 2) false := ⟨RX5, TX5, tyX5, rfl, inX5, by decide, rfl, Or.inl (jgw_of (jtb_1 (i := 149) rfl) rfl), tyX5_ok, nmX5, rfl, rfl⟩
theorem kf_X5_22 : jFL RX5 22 5 14 3 := ⟨RX5, TX5, rfl, inX5, by decide, rfl, Or.inl (jgw_of (jtb_1 (i := 150) rfl) rfl)⟩
theorem kp_X5_22 : jFP RX5 22 5 14 3 (tyX5 3) false := ⟨RX5, TX5, tyX5, rfl, inX5, by decide, rfl, Or.inl (jgw_of (jtb_1 (i := 150) rfl) rfl), tyX5_ok, nmX5, rfl, rfl⟩
theorem kf_X5_27 : jFL RX5 27 5 14 4 := ⟨RX5, TX5, rfl, inX5, by decide, rfl, Or.inl (jgw_of (jtb_1 (i := 151) rfl) rfl)⟩
theorem kp_X5_27 : jFP RX5 27 5 14 4 (tyX5 4) false := ⟨RX5, TX5, tyX5, rfl, inX5, by decide, rfl, Or.inl (jgw_of (jtb_1 (i := 151) rfl) rfl), tyX5_ok, nmX5, rfl, rfl⟩
theorem kf_X5_31 : jFL RX5 31 5 14 5 := ⟨RX5, TX5, rfl, inX5, by decide, rfl, Or.inl (jgw_of (jtb_1 (i := 152) rfl) rfl)⟩
theorem kp_X5_31 : jFP RX5 31 5 14 5 (tyX5 5) false := ⟨RX5, TX5, tyX5, rfl, inX5, by decide, rfl, Or.inl (jgw_of (jtb_1 (i := 152) rfl) rfl), tyX5_ok, nmX5, rfl, rfl⟩
theorem kf_X6_32 : jFL RX6 32 5 14 5 := ⟨RX5, TX5, rfl, inX5, by decide, rfl, Or.inr ⟨"SkinShow", jnw_of (jtb_1 (i := 153) rfl) rfl⟩⟩
theorem kp_X6_32 : jFP RX6 32 5 14 5 (tyX5 5) false := ⟨RX5, TX5, tyX5, rfl, inX5, by decide, rfl, Or.inr ⟨rfl, "SkinShow", jnw_of (jtb_1 (i := 153) rfl) rfl⟩, tyX5_ok, nmX5, rfl, rfl⟩
theorem kf_X5_34 : jFL RX5 34 5 14 6 := ⟨RX5, TX5, rfl, inX5, by decide, rfl, Or.inl (jgw_of (jtb_1 (i := 154) rfl) rfl)⟩
theorem kp_X5_34 : jFP RX5 34 5 14 6 (tyX5 6) true := ⟨RX5, TX5, tyX5, rfl, inX5, by decide, rfl, Or.inl (jgw_of (jtb_1 (i := 154) rfl) rfl), tyX5_ok, nmX5, rfl, rfl⟩
theorem kf_X6_41 : jFL RX6 41 5 14 6 := ⟨RX5, TX5, rfl, inX5, by decide, rfl, Or.inr ⟨"SkinShow", jnw_of (jtb_1 (i := 155) rfl) rfl⟩⟩
theorem kf_X5_38 : jFL RX5 38 5 14 7 := ⟨RX5, TX5, rfl, inX5, by decide, rfl, Or.inl (jgw_of (jtb_1 (i := 156) rfl) rfl)⟩
theorem kp_X5_38 : jFP RX5 38 5 14 7 (tyX5 7) false := ⟨RX5, TX5, tyX5, rfl, inX5, by decide, rfl, Or.inl (jgw_of (jtb_1 (i := 156) rfl) rfl), tyX5_ok, nmX5, rfl, rfl⟩
theorem kf_X6_39 : jFL RX6 39 5 14 7 := ⟨RX5, TX5, rfl, inX5, by decide, rfl, Or.inr ⟨"SkinShow", jnw_of (jtb_1 (i := 157) rfl) rfl⟩⟩
theorem kp_X6_39 : jFP RX6 39 5 14 7 (tyX5 7) false := ⟨RX5, TX5, tyX5, rfl, inX5, by decide, rfl, Or.inr ⟨rfl, "SkinShow", jnw_of (jtb_1 (i := 157) rfl) rfl⟩, tyX5_ok, nmX5, rfl, rfl⟩
theorem kf_X5_41 : jFL RX5 41 5 14 8 := ⟨RX5, TX5, rfl, inX5, by decide, rfl, Or.inl (jgw_of (jtb_1 (i := 158) rfl) rfl)⟩
theorem kp_X5_41 : jFP RX5 41 5 14 8 (tyX5 8) false := ⟨RX5, TX5, tyX5, rfl, inX5, by decide, rfl, Or.inl (jgw_of (jtb_1 (i := 158) rfl) rfl), tyX5_ok, nmX5, rfl, rfl⟩
theorem kf_X6_37 : jFL RX6 37 5 14 8 := ⟨RX5, TX5, rfl, inX5, by decide, rfl, Or.inr ⟨"SkinShow", jnw_of (jtb_1 (i := 159) rfl) rfl⟩⟩
theorem kp_X6_37 : jFP RX6 37 5 14 8 (tyX5 8) false := ⟨RX5, TX5, tyX5, rfl, inX5, by decide, rfl, Or.inr ⟨rfl, "SkinShow", jnw_of (jtb_1 (i := 159) rfl) rfl⟩, tyX5_ok, nmX5, rfl, rfl⟩
theorem kf_X5_44 : jFL RX5 44 5 14 9 := ⟨RX5, TX5, rfl, inX5, by decide, rfl, Or.inl (jgw_of (jtb_1 (i := 160) rfl) rfl)⟩
theorem kp_X5_44 : jFP RX5 44 5 14 9 (tyX5 9) true := ⟨RX5, TX5, tyX5, rfl, inX5, by decide, rfl, Or.inl (jgw_of (jtb_1 (i := 160) rfl) rfl), tyX5_ok, nmX5, rfl, rfl⟩
theorem kf_X5_47 : jFL RX5 47 5 14 10 := ⟨RX5, TX5, rfl, inX5, by decide, rfl, Or.inl (jgw_of (jtb_1 (i := 161) rfl) rfl)⟩
theorem kp_X5_47 : jFP RX5 47 5 14 10 (tyX5 10) false := ⟨RX5, TX5, tyX5, rfl, inX5, by decide, rfl, Or.inl (jgw_of (jtb_1 (i := 161) rfl) rfl), tyX5_ok, nmX5, rfl, rfl⟩
theorem kf_X5_50 : jFL RX5 50 5 14 11 := ⟨RX5, TX5, rfl, inX5, by decide, rfl, Or.inl (jgw_of (jtb_1 (i := 162) rfl) rfl)⟩
theorem kp_X5_50 : jFP RX5 50 5 14 11 (tyX5 11) false := ⟨RX5, TX5, tyX5, rfl, inX5, by decide, rfl, Or.inl (jgw_of (jtb_1 (i := 162) rfl) rfl), tyX5_ok, nmX5, rfl, rfl⟩
theorem kf_X5_53 : jFL RX5 53 5 14 12 := ⟨RX5, TX5, rfl, inX5, by decide, rfl, Or.inl (jgw_of (jtb_1 (i := 163) rfl) rfl)⟩
theorem kp_X5_53 : jFP RX5 53 5 14 12 (tyX5 12) false := ⟨RX5, TX5, tyX5, rfl, inX5, by decide, rfl, Or.inl (jgw_of (jtb_1 (i := 163) rfl) rfl), tyX5_ok, nmX5, rfl, rfl⟩
theorem kf_X5_56 : jFL RX5 56 5 14 13 := ⟨RX5, TX5, rfl, inX5, by decide, rfl, Or.inl (jgw_of (jtb_1 (i := 164) rfl) rfl)⟩
theorem kp_X5_56 : jFP RX5 56 5 14 13 (tyX5 13) false := ⟨RX5, TX5, tyX5, rfl, inX5, by decide, rfl, Or.inl (jgw_of (jtb_1 (i := 164) rfl) rfl), tyX5_ok, nmX5, rfl, rfl⟩
theorem kf_X6_9 : jFL RX6 9 6 6 0 := ⟨RX6, TX6, rfl, inX6, by decide, rfl, Or.inl (jgw_of (jtb_1 (i := 202) rfl) rfl)⟩
theorem kp_X6_9 : jFP RX6 9 6 6 0 (tyX6 0) true := ⟨RX6, TX6, tyX6, rfl, inX6, by decide, rfl, Or.inl (jgw_of (jtb_1 (i := 202) rfl) rfl), tyX6_ok, nmX6, rfl, rfl⟩
theorem kf_X7_239 : jFL RX7 239 6 6 0 := ⟨RX6, TX6, rfl, inX6, by decide, rfl, Or.inr ⟨"SkinShow", jnw_of (jtb_1 (i := 203) rfl) rfl⟩⟩
theorem kf_X6_15 : jFL RX6 15 6 6 1 := ⟨RX6, TX6, rfl, inX6, by decide, rfl, Or.inl (jgw_of (jtb_1 (i := 204) rfl) rfl)⟩
theorem kp_X6_15 : jFP RX6 15 6 6 1 (tyX6 1) true := ⟨RX6, TX6, tyX6, rfl, inX6, by decide, rfl, Or.inl (jgw_of (jtb_1 (i := 204) rfl) rfl), tyX6_ok, nmX6, rfl, rfl⟩
theorem kf_X7_240 : jFL RX7 240 6 6 1 := ⟨RX6, TX6, rfl, inX6, by decide, rfl, Or.inr ⟨"SkinShow", jnw_of (jtb_1 (i := 205) rfl) rfl⟩⟩
theorem kf_X6_18 : jFL RX6 18 6 6 2 := ⟨RX6, TX6, rfl, inX6, by decide, rfl, Or.inl (jgw_of (jtb_1 (i := 206) rfl) rfl)⟩
theorem kp_X6_18 : jFP RX6 18 6 6 2 (tyX6 2) true := ⟨RX6, TX6, tyX6, rfl, inX6, by decide, rfl, Or.inl (jgw_of (jtb_1 (i := 206) rfl) rfl), tyX6_ok, nmX6, rfl, rfl⟩
theorem kf_X7_243 : jFL RX7 243 6 6 2 := ⟨RX6, TX6, rfl, inX6, by decide, rfl, Or.inr ⟨"SkinShow", jnw_of (jtb_1 (i := 207) rfl) rfl⟩⟩
theorem kf_X6_21 : jFL RX6 21 6 6 3 := ⟨RX6, TX6, rfl, inX6, by decide, rfl, Or.inl (jgw_of (jtb_1 (i := 208) rfl) rfl)⟩
theorem kp_X6_21 : jFP RX6 21 6 6 3 (tyX6 3) true := ⟨RX6, TX6, tyX6, rfl, inX6, by decide, rfl, Or.inl (jgw_of (jtb_1 (i := 208) rfl) rfl), tyX6_ok, nmX6, rfl, rfl⟩
theorem kf_X6_26 : jFL RX6 26 6 6 4 := ⟨RX6, TX6, rfl, inX6, by decide, rfl, Or.inl (jgw_of (jtb_1 (i := 209) rfl) rfl)⟩
theorem kp_X6_26 : jFP RX6 26 6 6 4 (tyX6 4) true := ⟨RX6, TX6, tyX6, rfl, inX6, by decide, rfl, Or.inl (jgw_of (jtb_1 (i := 209) rfl) rfl), tyX6_ok, nmX6, rfl, rfl⟩
theorem kf_X6_29 : jFL RX6 29 6 6 5 := ⟨RX6, TX6, rfl, inX6, by decide, rfl, Or.inl (jgw_of (jtb_1 (i := 210) rfl) rfl)⟩
theorem kp_X6_29 : jFP RX6 29 6 6 5 (tyX6 5) true := ⟨RX6, TX6, tyX6, rfl, inX6, by decide, rfl, Or.inl (jgw_of (jtb_1 (i := 210) rfl) rfl), tyX6_ok, nmX6, rfl, rfl⟩
theorem kf_X0_9 : jFL RX0 9 0 9 0 := ⟨RX0, TX0, rfl, inX0, by decide, rfl, Or.inl (jgw_of (jtb_1 (i := 231) rfl) rfl)⟩
theorem kp_X0_9 : jFP RX0 9 0 9 0 (tyX0 0) true := ⟨RX0, TX0, tyX0, rfl, inX0, by decide, rfl, Or.inl (jgw_of (jtb_1 (i := 231) rfl) rfl), tyX0_ok, nmX0, rfl, rfl⟩
theorem kf_X0_15 : jFL RX0 15 0 9 1 := ⟨RX0, TX0, rfl, inX0, by decide, rfl, Or.inl (jgw_of (jtb_1 (i := 232) rfl) rfl)⟩
theorem kp_X0_15 : jFP RX0 15 0 9 1 (tyX0 1) true := ⟨RX0, TX0, tyX0, rfl, inX0, by decide, rfl, Or.inl (jgw_of (jtb_1 (i := 232) rfl) rfl), tyX0_ok, nmX0, rfl, rfl⟩
theorem kf_X3_103 : jFL RX3 103 0 9 1 := ⟨RX0, TX0, rfl, inX0, by decide, rfl, Or.inr ⟨"SkinShow", jnw_of (jtb_1 (i := 233) rfl) rfl⟩⟩
theorem kf_X0_18 : jFL RX0 18 0 9 2 := ⟨RX0, TX0, rfl, inX0, by decide, rfl, Or.inl (jgw_of (jtb_1 (i := 234) rfl) rfl)⟩
theorem kp_X0_18 : jFP RX0 18 0 9 2 (tyX0 2) true := ⟨RX0, TX0, tyX0, rfl, inX0, by decide, rfl, Or.inl (jgw_of (jtb_1 (i := 234) rfl) rfl), tyX0_ok, nmX0, rfl, rfl⟩
theorem kf_X3_106 : jFL RX3 106 0 9 2 := ⟨RX0, TX0, rfl, inX0, by decide, rfl, Or.inr ⟨"SkinShow", jnw_of (jtb_1 (i := 235) rfl) rfl⟩⟩
theorem kf_X0_21 : jFL RX0 21 0 9 3 := ⟨RX0, TX0, rfl, inX0, by decide, rfl, Or.inl (jgw_of (jtb_1 (i := 236) rfl) rfl)⟩
theorem kp_X0_21 : jFP RX0 21 0 9 3 (tyX0 3) true := ⟨RX0, TX0, tyX0, rfl, inX0, by decide, rfl, Or.inl (jgw_of (jtb_1 (i := 236) rfl) rfl), tyX0_ok, nmX0, rfl, rfl⟩
theorem kf_X0_24 : jFL RX0 24 0 9 4 := ⟨RX0, TX0, rfl, inX0, by decide, rfl, Or.inl (jgw_of (jtb_1 (i := 237) rfl) rfl)⟩
theorem kp_X0_24 : jFP RX0 24 0 9 4 (tyX0 4) true := ⟨RX0, TX0, tyX0, rfl, inX0, by decide, rfl, Or.inl (jgw_of (jtb_1 (i := 237) rfl) rfl), tyX0_ok, nmX0, rfl, rfl⟩
theorem kf_X0_28 : jFL RX0 28 0 9 5 := ⟨RX0, TX0, rfl, inX0, by decide, rfl, Or.inl (jgw_of (jtb_1 (i := 238) rfl) rfl)⟩
theorem kp_X0_28 : jFP RX0 28 0 9 5 (tyX0 5) true := ⟨RX0, TX0, tyX0, rfl, inX0, by decide, rfl, Or.inl (jgw_of (jtb_1 (i := 238) rfl) rfl), tyX0_ok, nmX0, rfl, rfl⟩
theorem kf_X0_31 : jFL RX0 31 0 9 6 := ⟨RX0, TX0, rfl, inX0, by decide, rfl, Or.inl (jgw_of (jtb_1 (i := 239) rfl) rfl)⟩
theorem kp_X0_31 : jFP RX0 31 0 9 6 (tyX0 6) false := ⟨RX0, TX0, tyX0, rfl, inX0, by decide, rfl, Or.inl (jgw_of (jtb_1 (i := 239) rfl) rfl), tyX0_ok, nmX0, rfl, rfl⟩
theorem kf_X7_277 : jFL RX7 277 0 9 6 := ⟨RX0, TX0, rfl, inX0, by decide, rfl, Or.inr ⟨"SkinShow", jnw_of (jtb_2 (i := 0) rfl) rfl⟩⟩
theorem kp_X7_277 : jFP RX7 277 0 9 6 (tyX0 6) false := ⟨RX0, TX0, tyX0, rfl, inX0, by decide, rfl, Or.inr ⟨rfl, "SkinShow", jnw_of (jtb_2 (i := 0) rfl) rfl⟩, tyX0_ok, nmX0, rfl, rfl⟩
theorem kf_X0_35 : jFL RX0 35 0 9 7 := ⟨RX0, TX0, rfl, inX0, by decide, rfl, Or.inl (jgw_of (jtb_2 (i := 1) rfl) rfl)⟩
theorem kp_X0_35 : jFP RX0 35 0 9 7 (tyX0 7) false := ⟨RX0, TX0, tyX0, rfl, inX0, by decide, rfl, Or.inl (jgw_of (jtb_2 (i := 1) rfl) rfl), tyX0_ok, nmX0, rfl, rfl⟩
theorem kf_X7_271 : jFL RX7 271 0 9 7 := ⟨RX0, TX0, rfl, inX0, by decide, rfl, Or.inr ⟨"SkinShow", jnw_of (jtb_2 (i := 2) rfl) rfl⟩⟩
theorem kp_X7_271 : jFP RX7 271 0 9 7 (tyX0 7) false := ⟨RX0, TX0, tyX0, rfl, inX0, by decide, rfl, Or.inr ⟨rfl, "SkinShow", jnw_of (jtb_2 (i := 2) rfl) rfl⟩, tyX0_ok, nmX0, rfl, rfl⟩
theorem kf_X0_39 : jFL RX0 39 0 9 8 := ⟨RX0, TX0, rfl, inX0, by decide, rfl, Or.inl (jgw_of (jtb_2 (i := 3) rfl) rfl)⟩
theorem kp_X0_39 : jFP RX0 39 0 9 8 (tyX0 8) false := ⟨RX0, TX0, tyX0, rfl, inX0, by decide, rfl, Or.inl (jgw_of (jtb_2 (i := 3) rfl) rfl), tyX0_ok, nmX0, rfl, rfl⟩
theorem kf_X7_274 : jFL RX7 274 0 9 8 := ⟨RX0, TX0, rfl, inX0, by decide, rfl, Or.inr ⟨"SkinShow", jnw_of (jtb_2 (i := 4) rfl) rfl⟩⟩
theorem kp_X7_274 : jFP RX7 274 0 9 8 (tyX0 8) false := ⟨RX0, TX0, tyX0, rfl, inX0, by decide, rfl, Or.inr ⟨rfl, "SkinShow", jnw_of (jtb_2 (i := 4) rfl) rfl⟩, tyX0_ok, nmX0, rfl, rfl⟩
theorem kf_X3_14 : jFL RX3 14 3 8 0 := ⟨RX3, TX3, rfl, inX3, by decide, rfl, Or.inl (jgw_of (jtb_2 (i := 35) rfl) rfl)⟩
theorem kp_X3_14 : jFP RX3 14 3 8 0 (tyX3 0) true := ⟨RX3, TX3, tyX3, rfl, inX3, by decide, rfl, Or.inl (jgw_of (jtb_2 (i := 35) rfl) rfl), tyX3_ok, nmX3, rfl, rfl⟩
theorem kf_X3_21 : jFL RX3 21 3 8 1 := ⟨RX3, TX3, rfl, inX3, by decide, rfl, Or.inl (jgw_of (jtb_2 (i := 36) rfl) rfl)⟩
theorem kp_X3_21 : jFP RX3 21 3 8 1 (tyX3 1) true := ⟨RX3, TX3, tyX3, rfl, inX3, by decide, rfl, Or.inl (jgw_of (jtb_2 (i := 36) rfl) rfl), tyX3_ok, nmX3, rfl, rfl⟩
theorem kf_X3_25 : jFL RX3 25 3 8 2 := ⟨RX3, TX3, rfl, inX3, by decide, rfl, Or.inl (jgw_of (jtb_2 (i := 37) rfl) rfl)⟩
theorem kp_X3_25 : jFP RX3 25 3 8 2 (tyX3 2) true := ⟨RX3, TX3, tyX3, rfl, inX3, by decide, rfl, Or.inl (jgw_of (jtb_2 (i := 37) rfl) rfl), tyX3_ok, nmX3, rfl, rfl⟩
theorem kf_X3_29 : jFL RX3 29 3 8 3 := ⟨RX3, TX3, rfl, inX3, by decide, rfl, Or.inl (jgw_of (jtb_2 (i := 38) rfl) rfl)⟩
theorem kp_X3_29 : jFP RX3 29 3 8 3 (tyX3 3) false := ⟨RX3, TX3, tyX3, rfl, inX3, by decide, rfl, Or.inl (jgw_of (jtb_2 (i := 38) rfl) rfl), tyX3_ok, nmX3, rfl, rfl⟩
theorem kf_X3_33 : jFL RX3 33 3 8 4 := ⟨RX3, TX3, rfl, inX3, by decide, rfl, Or.inl (jgw_of (jtb_2 (i := 39) rfl) rfl)⟩
theorem kp_X3_33 : jFP RX3 33 3 8 4 (tyX3 4) true := ⟨RX3, TX3, tyX3, rfl, inX3, by decide, rfl, Or.inl (jgw_of (jtb_2 (i := 39) rfl) rfl), tyX3_ok, nmX3, rfl, rfl⟩
theorem kf_X3_37 : jFL RX3 37 3 8 5 := ⟨RX3, TX3, rfl, inX3, by decide, rfl, Or.inl (jgw_of (jtb_2 (i := 40) rfl) rfl)⟩
theorem kp_X3_37 : jFP RX3 37 3 8 5 (tyX3 5) true := ⟨RX3, TX3, tyX3, rfl, inX3, by decide, rfl, Or.inl (jgw_of (jtb_2 (i := 40) rfl) rfl), tyX3_ok, nmX3, rfl, rfl⟩
theorem kf_X3_40 : jFL RX3 40 3 8 6 := ⟨RX3, TX3, rfl, inX3, by decide, rfl, Or.inl (jgw_of (jtb_2 (i := 41) rfl) rfl)⟩
theorem kp_X3_40 : jFP RX3 40 3 8 6 (tyX3 6) false := ⟨RX3, TX3, tyX3, rfl, inX3, by decide, rfl, Or.inl (jgw_of (jtb_2 (i := 41) rfl) rfl), tyX3_ok, nmX3, rfl, rfl⟩
theorem kf_X7_291 : jFL RX7 291 3 8 6 := ⟨RX3, TX3, rfl, inX3, by decide, rfl, Or.inr ⟨"SkinShow", jnw_of (jtb_2 (i := 42) rfl) rfl⟩⟩
theorem kp_X7_291 : jFP RX7 291 3 8 6 (tyX3 6) false := ⟨RX3, TX3, tyX3, rfl, inX3, by decide, rfl, Or.inr ⟨rfl, "SkinShow", jnw_of (jtb_2 (i := 42) rfl) rfl⟩, tyX3_ok, nmX3, rfl, rfl⟩
theorem kf_X3_43 : jFL RX3 43 3 8 7 := ⟨RX3, TX3, rfl, inX3, by decide, rfl, Or.inl (jgw_of (jtb_2 (i := 43) rfl) rfl)⟩
theorem kp_X3_43 : jFP RX3 43 3 8 7 (tyX3 7) false := ⟨RX3, TX3, tyX3, rfl, inX3, by decide, rfl, Or.inl (jgw_of (jtb_2 (i := 43) rfl) rfl), tyX3_ok, nmX3, rfl, rfl⟩
theorem kf_X7_294 : jFL RX7 294 3 8 7 := ⟨RX3, TX3, rfl, inX3, by decide, rfl, Or.inr ⟨"SkinShow", jnw_of (jtb_2 (i := 44) rfl) rfl⟩⟩
theorem kp_X7_294 : jFP RX7 294 3 8 7 (tyX3 7) false := ⟨RX3, TX3, tyX3, rfl, inX3, by decide, rfl, Or.inr ⟨rfl, "SkinShow", jnw_of (jtb_2 (i := 44) rfl) rfl⟩, tyX3_ok, nmX3, rfl, rfl⟩
theorem kf_X2_9 : jFL RX2 9 2 4 0 := ⟨RX2, TX2, rfl, inX2, by decide, rfl, Or.inl (jgw_of (jtb_2 (i := 69) rfl) rfl)⟩
theorem kp_X2_9 : jFP RX2 9 2 4 0 (tyX2 0) true := ⟨RX2, TX2, tyX2, rfl, inX2, by decide, rfl, Or.inl (jgw_of (jtb_2 (i := 69) rfl) rfl), tyX2_ok, nmX2, rfl, rfl⟩
theorem kf_X7_303 : jFL RX7 303 2 4 0 := ⟨RX2, TX2, rfl, inX2, by decide, rfl, Or.inr ⟨"SkinShow", jnw_of (jtb_2 (i := 70) rfl) rfl⟩⟩
theorem kf_X2_17 : jFL RX2 17 2 4 1 := ⟨RX2, TX2, rfl, inX2, by decide, rfl, Or.inl (jgw_of (jtb_2 (i := 71) rfl) rfl)⟩
theorem kp_X2_17 : jFP RX2 17 2 4 1 (tyX2 1) true := ⟨RX2, TX2, tyX2, rfl, inX2, by decide, rfl, Or.inl (jgw_of (jtb_2 (i := 71) rfl) rfl), tyX2_ok, nmX2, rfl, rfl⟩
theorem kf_X7_306 : jFL RX7 306 2 4 1 := ⟨RX2, TX2, rfl, inX2, by decide, rfl, Or.inr ⟨"SkinShow", jnw_of (jtb_2 (i := 72) rfl) rfl⟩⟩
theorem kf_X2_20 : jFL RX2 20 2 4 2 := ⟨RX2, TX2, rfl, inX2, by decide, rfl, Or.inl (jgw_of (jtb_2 (i := 73) rfl) rfl)⟩
theorem kp_X2_20 : jFP RX2 20 2 4 2 (tyX2 2) true := ⟨RX2, TX2, tyX2, rfl, inX2, by decide, rfl, Or.inl (jgw_of (jtb_2 (i := 73) rfl) rfl), tyX2_ok, nmX2, rfl, rfl⟩
theorem kf_X7_321 : jFL RX7 321 2 4 2 := ⟨RX2, TX2, rfl, inX2, by decide, rfl, Or.inr ⟨"SkinShow", jnw_of (jtb_2 (i := 74) rfl) rfl⟩⟩
theorem kf_X2_23 : jFL RX2 23 2 4 3 := ⟨RX2, TX2, rfl, inX2, by decide, rfl, Or.inl (jgw_of (jtb_2 (i := 75) rfl) rfl)⟩
theorem kp_X2_23 : jFP RX2 23 2 4 3 (tyX2 3) true := ⟨RX2, TX2, tyX2, rfl, inX2, by decide, rfl, Or.inl (jgw_of (jtb_2 (i := 75) rfl) rfl), tyX2_ok, nmX2, rfl, rfl⟩
theorem kf_X7_10 : jFL RX7 10 7 12 0 := ⟨RX7, TX7, rfl, inX7, by decide, rfl, Or.inl (jgw_of (jtb_2 (i := 85) rfl) rfl)⟩
theorem kp_X7_10 : jFP RX7 10 7 12 0 (tyX7 0) true := ⟨RX7, TX7, tyX7, rfl, inX7, by decide, rfl, Or.inl (jgw_of (jtb_2 (i := 85) rfl) rfl), tyX7_ok, nmX7, rfl, rfl⟩
theorem kf_X7_16 : jFL RX7 16 7 12 1 := ⟨RX7, TX7, rfl, inX7, by decide, rfl, Or.inl (jgw_of (jtb_2 (i := 86) rfl) rfl)⟩
theorem kp_X7_16 : jFP RX7 16 7 12 1 (tyX7 1) true := ⟨RX7, TX7, tyX7, rfl, inX7, by decide, rfl, Or.inl (jgw_of (jtb_2 (i := 86) rfl) rfl), tyX7_ok, nmX7, rfl, rfl⟩
theorem kf_X7_19 : jFL RX7 19 7 12 2 := ⟨RX7, TX7, rfl, inX7, by decide, rfl, Or.inl (jgw_of (jtb_2 (i := 87) rfl) rfl)⟩
theorem kp_X7_19 : jFP RX7 19 7 12 2 (tyX7 2) true := ⟨RX7, TX7, tyX7, rfl, inX7, by decide, rfl, Or.inl (jgw_of (jtb_2 (i := 87) rfl) rfl), tyX7_ok, nmX7, rfl, rfl⟩
theorem kf_X7_25 : jFL RX7 25 7 12 3 := ⟨RX7, TX7, rfl, inX7, by decide, rfl, Or.inl (jgw_of (jtb_2 (i := 88) rfl) rfl)⟩
theorem kp_X7_25 : jFP RX7 25 7 12 3 (tyX7 3) true := ⟨RX7, TX7, tyX7, rfl, inX7, by decide, rfl, Or.inl (jgw_of (jtb_2 (i := 88) rfl) rfl), tyX7_ok, nmX7, rfl, rfl⟩
theorem kf_X7_32 : jFL RX7 32 7 12 4 := ⟨RX7, TX7, rfl, inX7, by decide, rfl, Or.inl (jgw_of (jtb_2 (i := 89) rfl) rfl)⟩
theorem kp_X7_32 : jFP RX7 32 7 12 4 (tyX7 4) true := ⟨RX7, TX7, tyX7, rfl, inX7, by decide, rfl, Or.inl (jgw_of (jtb_2 (i := 89) rfl) rfl), tyX7_ok, nmX7, rfl, rfl⟩
theorem kf_X7_39 : jFL RX7 39 7 12 5 := ⟨RX7, TX7, rfl, inX7, by decide, rfl, Or.inl (jgw_of (jtb_2 (i := 90) rfl) rfl)⟩
theorem kp_X7_39 : jFP RX7 39 7 12 5 (tyX7 5) true := ⟨RX7, TX7, tyX7, rfl, inX7, by decide, rfl, Or.inl (jgw_of (jtb_2 (i := 90) rfl) rfl), tyX7_ok, nmX7, rfl, rfl⟩
theorem kf_X7_46 : jFL RX7 46 7 12 6 := ⟨RX7, TX7, rfl, inX7, by decide, rfl, Or.inl (jgw_of (jtb_2 (i := 91) rfl) rfl)⟩
theorem kp_X7_46 : jFP RX7 46 7 12 6 (tyX7 6) true := ⟨RX7, TX7, tyX7, rfl, inX7, by decide, rfl, Or.inl (jgw_of (jtb_2 (i := 91) rfl) rfl), tyX7_ok, nmX7, rfl, rfl⟩
theorem kf_X7_53 : jFL RX7 53 7 12 7 := ⟨RX7, TX7, rfl, inX7, by decide, rfl, Or.inl (jgw_of (jtb_2 (i := 92) rfl) rfl)⟩
theorem kp_X7_53 : jFP RX7 53 7 12 7 (tyX7 7) true := ⟨RX7, TX7, tyX7, rfl, inX7, by decide, rfl, Or.inl (jgw_of (jtb_2 (i := 92) rfl) rfl), tyX7_ok, nmX7, rfl, rfl⟩
theorem kf_X7_60 : jFL RX7 60 7 12 8 := ⟨RX7, TX7, rfl, inX7, by decide, rfl, Or.inl (jgw_of (jtb_2 (i := 93) rfl) rfl)⟩
theorem kp_X7_60 : jFP RX7 60 7 12 8 (tyX7 8) true := ⟨RX7, TX7, tyX7, rfl, inX7, by decide, rfl, Or.inl (jgw_of (jtb_2 (i := 93) rfl) rfl), tyX7_ok, nmX7, rfl, rfl⟩
theorem kf_X7_64 : jFL RX7 64 7 12 9 := ⟨RX7, TX7, rfl, inX7, by decide, rfl, Or.inl (jgw_of (jtb_2 (i := 94) rfl) rfl)⟩
theorem kp_X7_64 : jFP RX7 64 7 12 9 (tyX7 9) true := ⟨RX7, TX7, tyX7, rfl, inX7, by decide, rfl, Or.inl (jgw_of (jtb_2 (i := 94) rfl) rfl), tyX7_ok, nmX7, rfl, rfl⟩
theorem kf_X7_68 : jFL RX7 68 7 12 10 := ⟨RX7, TX7, rfl, inX7, by decide, rfl, Or.inl (jgw_of (jtb_2 (i := 95) rfl) rfl)⟩
theorem kp_X7_68 : jFP RX7 68 7 12 10 (tyX7 10) false := ⟨RX7, TX7, tyX7, rfl, inX7, by decide, rfl, Or.inl (jgw_of (jtb_2 (i := 95) rfl) rfl), tyX7_ok, nmX7, rfl, rfl⟩
theorem kf_X7_72 : jFL RX7 72 7 12 11 := ⟨RX7, TX7, rfl, inX7, by decide, rfl, Or.inl (jgw_of (jtb_2 (i := 96) rfl) rfl)⟩
theorem kp_X7_72 : jFP RX7 72 7 12 11 (tyX7 11) false := ⟨RX7, TX7, tyX7, rfl, inX7, by decide, rfl, Or.inl (jgw_of (jtb_2 (i := 96) rfl) rfl), tyX7_ok, nmX7, rfl, rfl⟩
theorem kf_X8_7 : jFL RX8 7 8 37 0 := ⟨RX8, TX8, rfl, inX8, by decide, rfl, Or.inl (jgw_of (jtb_5 (i := 51) rfl) rfl)⟩
theorem kp_X8_7 : jFP RX8 7 8 37 0 (tyX8 0) true := ⟨RX8, TX8, tyX8, rfl, inX8, by decide, rfl, Or.inl (jgw_of (jtb_5 (i := 51) rfl) rfl), tyX8_ok, nmX8, rfl, rfl⟩
theorem kf_X8_13 : jFL RX8 13 8 37 1 := ⟨RX8, TX8, rfl, inX8, by decide, rfl, Or.inl (jgw_of (jtb_5 (i := 52) rfl) rfl)⟩
theorem kp_X8_13 : jFP RX8 13 8 37 1 (tyX8 1) true := ⟨RX8, TX8, tyX8, rfl, inX8, by decide, rfl, Or.inl (jgw_of (jtb_5 (i := 52) rfl) rfl), tyX8_ok, nmX8, rfl, rfl⟩
theorem kf_X8_16 : jFL RX8 16 8 37 2 := ⟨RX8, TX8, rfl, inX8, by decide, rfl, Or.inl (jgw_of (jtb_5 (i := 53) rfl) rfl)⟩
theorem kp_X8_16 : jFP RX8 16 8 37 2 (tyX8 2) true := ⟨RX8, TX8, tyX8, rfl, inX8, by decide, rfl, Or.inl (jgw_of (jtb_5 (i := 53) rfl) rfl), tyX8_ok, nmX8, rfl, rfl⟩
theorem kf_X8_371 : jFL RX8 371 8 37 3 := ⟨RX8, TX8, rfl, inX8, by decide, rfl, Or.inl (jgw_of (jtb_5 (i := 54) rfl) rfl)⟩
theorem kp_X8_371 : jFP RX8 371 8 37 3 (tyX8 3) false := ⟨RX8, TX8, tyX8, rfl, inX8, by decide, rfl, Or.inl (jgw_of (jtb_5 (i := 54) rfl) rfl), tyX8_ok, nmX8, rfl, rfl⟩
theorem kf_X8_19 : jFL RX8 19 8 37 4 := ⟨RX8, TX8, rfl, inX8, by decide, rfl, Or.inl (jgw_of (jtb_5 (i := 55) rfl) rfl)⟩
theorem kp_X8_19 : jFP RX8 19 8 37 4 (tyX8 4) true := ⟨RX8, TX8, tyX8, rfl, inX8, by decide, rfl, Or.inl (jgw_of (jtb_5 (i := 55) rfl) rfl), tyX8_ok, nmX8, rfl, rfl⟩
theorem kf_X8_22 : jFL RX8 22 8 37 5 := ⟨RX8, TX8, rfl, inX8, by decide, rfl, Or.inl (jgw_of (jtb_5 (i := 56) rfl) rfl)⟩
theorem kp_X8_22 : jFP RX8 22 8 37 5 (tyX8 5) true := ⟨RX8, TX8, tyX8, rfl, inX8, by decide, rfl, Or.inl (jgw_of (jtb_5 (i := 56) rfl) rfl), tyX8_ok, nmX8, rfl, rfl⟩
theorem kf_X8_25 : jFL RX8 25 8 37 6 := ⟨RX8, TX8, rfl, inX8, by decide, rfl, Or.inl (jgw_of (jtb_5 (i := 57) rfl) rfl)⟩
theorem kp_X8_25 : jFP RX8 25 8 37 6 (tyX8 6) true := ⟨RX8, TX8, tyX8, rfl, inX8, by decide, rfl, Or.inl (jgw_of (jtb_5 (i := 57) rfl) rfl), tyX8_ok, nmX8, rfl, rfl⟩
theorem kf_X8_28 : jFL RX8 28 8 37 7 := ⟨RX8, TX8, rfl, inX8, by decide, rfl, Or.inl (jgw_of (jtb_5 (i := 58) rfl) rfl)⟩
theorem kp_X8_28 : jFP RX8 28 8 37 7 (tyX8 7) true := ⟨RX8, TX8, tyX8, rfl, inX8, by decide, rfl, Or.inl (jgw_of (jtb_5 (i := 58) rfl) rfl), tyX8_ok, nmX8, rfl, rfl⟩
theorem kf_X8_31 : jFL RX8 31 8 37 8 := ⟨RX8, TX8, rfl, inX8, by decide, rfl, Or.inl (jgw_of (jtb_5 (i := 59) rfl) rfl)⟩
theorem kp_X8_31 : jFP RX8 31 8 37 8 (tyX8 8) true := ⟨RX8, TX8, tyX8, rfl, inX8, by decide, rfl, Or.inl (jgw_of (jtb_5 (i := 59) rfl) rfl), tyX8_ok, nmX8, rfl, rfl⟩
theorem kf_X8_34 : jFL RX8 34 8 37 9 := ⟨RX8, TX8, rfl, inX8, by decide, rfl, Or.inl (jgw_of (jtb_5 (i := 60) rfl) rfl)⟩
theorem kp_X8_34 : jFP RX8 34 8 37 9 (tyX8 9) true := ⟨RX8, TX8, tyX8, rfl, inX8, by decide, rfl, Or.inl (jgw_of (jtb_5 (i := 60) rfl) rfl), tyX8_ok, nmX8, rfl, rfl⟩
theorem kf_X8_37 : jFL RX8 37 8 37 10 := ⟨RX8, TX8, rfl, inX8, by decide, rfl, Or.inl (jgw_of (jtb_5 (i := 61) rfl) rfl)⟩
theorem kp_X8_37 : jFP RX8 37 8 37 10 (tyX8 10) true := ⟨RX8, TX8, tyX8, rfl, inX8, by decide, rfl, Or.inl (jgw_of (jtb_5 (i := 61) rfl) rfl), tyX8_ok, nmX8, rfl, rfl⟩
theorem kf_X8_180 : jFL RX8 180 8 37 11 := ⟨RX8, TX8, rfl, inX8, by decide, rfl, Or.inl (jgw_of (jtb_5 (i := 62) rfl) rfl)⟩
theorem kp_X8_180 : jFP RX8 180 8 37 11 (tyX8 11) false := ⟨RX8, TX8, tyX8, rfl, inX8, by decide, rfl, Or.inl (jgw_of (jtb_5 (i := 62) rfl) rfl), tyX8_ok, nmX8, rfl, rfl⟩
theorem kf_X8_196 : jFL RX8 196 8 37 12 := ⟨RX8, TX8, rfl, inX8, by decide, rfl, Or.inl (jgw_of (jtb_5 (i := 63) rfl) rfl)⟩
theorem kp_X8_196 : jFP RX8 196 8 37 12 (tyX8 12) false := ⟨RX8, TX8, tyX8, rfl, inX8, by decide, rfl, Or.inl (jgw_of (jtb_5 (i := 63) rfl) rfl), tyX8_ok, nmX8, rfl, rfl⟩
theorem kf_X8_190 : jFL RX8 190 8 37 13 := ⟨RX8, TX8, rfl, inX8, by decide, rfl, Or.inl (jgw_of (jtb_5 (i := 64) rfl) rfl)⟩
theorem kp_X8_190 : jFP RX8 190 8 37 13 (tyX8 13) false := ⟨RX8, TX8, tyX8, rfl, inX8, by decide, rfl, Or.inl (jgw_of (jtb_5 (i := 64) rfl) rfl), tyX8_ok, nmX8, rfl, rfl⟩
theorem kf_X8_193 : jFL RX8 193 8 37 14 := ⟨RX8, TX8, rfl, inX8, by decide, rfl, Or.inl (jgw_of (jtb_5 (i := 65) rfl) rfl)⟩
theorem kp_X8_193 : jFP RX8 193 8 37 14 (tyX8 14) false := ⟨RX8, TX8, tyX8, rfl, inX8, by decide, rfl, Or.inl (jgw_of (jtb_5 (i := 65) rfl) rfl), tyX8_ok, nmX8, rfl, rfl⟩
theorem kf_X8_208 : jFL RX8 208 8 37 15 := ⟨RX8, TX8, rfl, inX8, by decide, rfl, Or.inl (jgw_of (jtb_5 (i := 66) rfl) rfl)⟩
theorem kp_X8_208 : jFP RX8 208 8 37 15 (tyX8 15) false := ⟨RX8, TX8, tyX8, rfl, inX8, by decide, rfl, Or.inl (jgw_of (jtb_5 (i := 66) rfl) rfl), tyX8_ok, nmX8, rfl, rfl⟩
theorem kf_X8_202 : jFL RX8 202 8 37 16 := ⟨RX8, TX8, rfl, inX8, by decide, rfl, Or.inl (jgw_of (jtb_5 (i := 67) rfl) rfl)⟩
theorem kp_X8_202 : jFP RX8 202 8 37 16 (tyX8 16) false := ⟨RX8, TX8, tyX8, rfl, inX8, by decide, rfl, Or.inl (jgw_of (jtb_5 (i := 67) rfl) rfl), tyX8_ok, nmX8, rfl, rfl⟩
theorem kf_X8_256 : jFL RX8 256 8 37 17 := ⟨RX8, TX8, rfl, inX8, by decide, rfl, Or.inl (jgw_of (jtb_5 (i := 68) rfl) rfl)⟩
theorem kp_X8_256 : jFP RX8 256 8 37 17 (tyX8 17) false := ⟨RX8, TX8, tyX8, rfl, inX8, by decide, rfl, Or.inl (jgw_of (jtb_5 (i := 68) rfl) rfl), tyX8_ok, nmX8, rfl, rfl⟩
theorem kf_X8_253 : jFL RX8 253 8 37 18 := ⟨RX8, TX8, rfl, inX8, by decide, rfl, Or.inl (jgw_of (jtb_5 (i := 69) rfl) rfl)⟩
theorem kp_X8_253 : jFP RX8 253 8 37 18 (tyX8 18) false := ⟨RX8, TX8, tyX8, rfl, inX8, by decide, rfl, Or.inl (jgw_of (jtb_5 (i := 69) rfl) rfl), tyX8_ok, nmX8, rfl, rfl⟩
theorem kf_X8_221 : jFL RX8 221 8 37 19 := ⟨RX8, TX8, rfl, inX8, by decide, rfl, Or.inl (jgw_of (jtb_5 (i := 70) rfl) rfl)⟩
theorem kp_X8_221 : jFP RX8 221 8 37 19 (tyX8 19) false := ⟨RX8, TX8, tyX8, rfl, inX8, by decide, rfl, Or.inl (jgw_of (jtb_5 (i := 70) rfl) rfl), tyX8_ok, nmX8, rfl, rfl⟩
theorem kf_X8_218 : jFL RX8 218 8 37 20 := ⟨RX8, TX8, rfl, inX8, by decide, rfl, Or.inl (jgw_of (jtb_5 (i := 71) rfl) rfl)⟩
theorem kp_X8_218 : jFP RX8 218 8 37 20 (tyX8 20) false := ⟨RX8, TX8, tyX8, rfl, inX8, by decide, rfl, Or.inl (jgw_of (jtb_5 (i := 71) rfl) rfl), tyX8_ok, nmX8, rfl, rfl⟩
theorem kf_X8_246 : jFL RX8 246 8 37 21 := ⟨RX8, TX8, rfl, inX8, by decide, rfl, Or.inl (jgw_of (jtb_5 (i := 72) rfl) rfl)⟩
theorem kp_X8_246 : jFP RX8 246 8 37 21 (tyX8 21) false := ⟨RX8, TX8, tyX8, rfl, inX8, by decide, rfl, Or.inl (jgw_of (jtb_5 (i := 72) rfl) rfl), tyX8_ok, nmX8, rfl, rfl⟩
theorem kf_X8_40 : jFL RX8 40 8 37 22 := ⟨RX8, TX8, rfl, inX8, by decide, rfl, Or.inl (jgw_of (jtb_5 (i := 73) rfl) rfl)⟩
theorem kp_X8_40 : jFP RX8 40 8 37 22 (tyX8 22) true := ⟨RX8, TX8, tyX8, rfl, inX8, by decide, rfl, Or.inl (jgw_of (jtb_5 (i := 73) rfl) rfl), tyX8_ok, nmX8, rfl, rfl⟩
theorem kf_X8_43 : jFL RX8 43 8 37 23 := ⟨RX8, TX8, rfl, inX8, by decide, rfl, Or.inl (jgw_of (jtb_5 (i := 74) rfl) rfl)⟩
theorem kp_X8_43 : jFP RX8 43 8 37 23 (tyX8 23) true := ⟨RX8, TX8, tyX8, rfl, inX8, by decide, rfl, Or.inl (jgw_of (jtb_5 (i := 74) rfl) rfl), tyX8_ok, nmX8, rfl, rfl⟩
theorem kf_X8_46 : jFL RX8 46 8 37 24 := ⟨RX8, TX8, rfl, inX8, by decide, rfl, Or.inl (jgw_of (jtb_5 (i := 75) rfl) rfl)⟩
theorem kp_X8_46 : jFP RX8 46 8 37 24 (tyX8 24) true := ⟨RX8, TX8, tyX8, rfl, inX8, by decide, rfl, Or.inl (jgw_of (jtb_5 (i := 75) rfl) rfl), tyX8_ok, nmX8, rfl, rfl⟩
theorem kf_X8_50 : jFL RX8 50 8 37 25 := ⟨RX8, TX8, rfl, inX8, by decide, rfl, Or.inl (jgw_of (jtb_5 (i := 76) rfl) rfl)⟩
theorem kp_X8_50 : jFP RX8 50 8 37 25 (tyX8 25) true := ⟨RX8, TX8, tyX8, rfl, inX8, by decide, rfl, Or.inl (jgw_of (jtb_5 (i := 76) rfl) rfl), tyX8_ok, nmX8, rfl, rfl⟩
theorem kf_X8_53 : jFL RX8 53 8 37 26 := ⟨RX8, TX8, rfl, inX8, by decide, rfl, Or.inl (jgw_of (jtb_5 (i := 77) rfl) rfl)⟩
theorem kp_X8_53 : jFP RX8 53 8 37 26 (tyX8 26) true := ⟨RX8, TX8, tyX8, rfl, inX8, by decide, rfl, Or.inl (jgw_of (jtb_5 (i := 77) rfl) rfl), tyX8_ok, nmX8, rfl, rfl⟩
theorem kf_X8_57 : jFL RX8 57 8 37 27 := ⟨RX8, TX8, rfl, inX8, by decide, rfl, Or.inl (jgw_of (jtb_5 (i := 78) rfl) rfl)⟩
theorem kp_X8_57 : jFP RX8 57 8 37 27 (tyX8 27) true := ⟨RX8, TX8, tyX8, rfl, inX8, by decide, rfl, Or.inl (jgw_of (jtb_5 (i := 78) rfl) rfl), tyX8_ok, nmX8, rfl, rfl⟩
theorem kf_X8_319 : jFL RX8 319 8 37 28 := ⟨RX8, TX8, rfl, inX8, by decide, rfl, Or.inl (jgw_of (jtb_5 (i := 79) rfl) rfl)⟩
theorem kp_X8_319 : jFP RX8 319 8 37 28 (tyX8 28) false := ⟨RX8, TX8, tyX8, rfl, inX8, by decide, rfl, Or.inl (jgw_of (jtb_5 (i := 79) rfl) rfl), tyX8_ok, nmX8, rfl, rfl⟩
theorem kf_X8_322 : jFL RX8 322 8 37 29 := ⟨RX8, TX8, rfl, inX8, by decide, rfl, Or.inl (jgw_of (jtb_5 (i := 80) rfl) rfl)⟩
theorem kp_X8_322 : jFP RX8 322 8 37 29 (tyX8 29) false := ⟨RX8, TX8, tyX8, rfl, inX8, by decide, rfl, Or.inl (jgw_of (jtb_5 (i := 80) rfl) rfl), tyX8_ok, nmX8, rfl, rfl⟩
theorem kf_X8_325 : jFL RX8 325 8 37 30 := ⟨RX8, TX8, rfl, inX8, by decide, rfl, Or.inl (jgw_of (jtb_5 (i := 81) rfl) rfl)⟩
theorem kp_X8_325 : jFP RX8 325 8 37 30 (tyX8 30) false := ⟨RX8, TX8, tyX8, rfl, inX8, by decide, rfl, Or.inl (jgw_of (jtb_5 (i := 81) rfl) rfl), tyX8_ok, nmX8, rfl, rfl⟩
theorem kf_X8_332 : jFL RX8 332 8 37 31 := ⟨RX8, TX8, rfl, inX8, by decide, rfl, Or.inl (jgw_of (jtb_5 (i := 82) rfl) rfl)⟩
theorem kp_X8_332 : jFP RX8 332 8 37 31 (tyX8 31) false := ⟨RX8, TX8, tyX8, rfl, inX8, by decide, rfl, Or.inl (jgw_of (jtb_5 (i := 82) rfl) rfl), tyX8_ok, nmX8, rfl, rfl⟩
theorem kf_X8_335 : jFL RX8 335 8 37 32 := ⟨RX8, TX8, rfl, inX8, by decide, rfl, Or.inl (jgw_of (jtb_5 (i := 83) rfl) rfl)⟩
theorem kp_X8_335 : jFP RX8 335 8 37 32 (tyX8 32) false := ⟨RX8, TX8, tyX8, rfl, inX8, by decide, rfl, Or.inl (jgw_of (jtb_5 (i := 83) rfl) rfl), tyX8_ok, nmX8, rfl, rfl⟩
theorem kf_X8_67 : jFL RX8 67 8 37 33 := ⟨RX8, TX8, rfl, inX8, by decide, rfl, Or.inl (jgw_of (jtb_5 (i := 84) rfl) rfl)⟩
theorem kp_X8_67 : jFP RX8 67 8 37 33 (tyX8 33) false := ⟨RX8, TX8, tyX8, rfl, inX8, by decide, rfl, Or.inl (jgw_of (jtb_5 (i := 84) rfl) rfl), tyX8_ok, nmX8, rfl, rfl⟩
theorem kf_X8_60 : jFL RX8 60 8 37 34 := ⟨RX8, TX8, rfl, inX8, by decide, rfl, Or.inl (jgw_of (jtb_5 (i := 85) rfl) rfl)⟩
theorem kp_X8_60 : jFP RX8 60 8 37 34 (tyX8 34) true := ⟨RX8, TX8, tyX8, rfl, inX8, by decide, rfl, Or.inl (jgw_of (jtb_5 (i := 85) rfl) rfl), tyX8_ok, nmX8, rfl, rfl⟩
theorem kf_X8_366 : jFL RX8 366 8 37 35 := ⟨RX8, TX8, rfl, inX8, by decide, rfl, Or.inl (jgw_of (jtb_5 (i := 86) rfl) rfl)⟩
theorem kp_X8_366 : jFP RX8 366 8 37 35 (tyX8 35) false := ⟨RX8, TX8, tyX8, rfl, inX8, by decide, rfl, Or.inl (jgw_of (jtb_5 (i := 86) rfl) rfl), tyX8_ok, nmX8, rfl, rfl⟩
theorem kf_X8_63 : jFL RX8 63 8 37 36 := ⟨RX8, TX8, rfl, inX8, by decide, rfl, Or.inl (jgw_of (jtb_5 (i := 87) rfl) rfl)⟩
theorem kp_X8_63 : jFP RX8 63 8 37 36 (tyX8 36) true := ⟨RX8, TX8, tyX8, rfl, inX8, by decide, rfl, Or.inl (jgw_of (jtb_5 (i := 87) rfl) rfl), tyX8_ok, nmX8, rfl, rfl⟩
theorem ks_X4_65 : Cond.fieldLink RX4 65 "SkinShow" (jtn 1) "[I" ∈ jgw ∨ ∃ host, Cond.fieldLinkNest RX4 65 "SkinShow" (jtn 1) "[I" host ∈ jnw := Or.inr ⟨"SkinShow", jnw_of (jtb_1 (i := 33) rfl) rfl⟩
theorem ks_X4_74 : Cond.fieldLink RX4 74 "SkinShow" (jtn 0) "[I" ∈ jgw ∨ ∃ host, Cond.fieldLinkNest RX4 74 "SkinShow" (jtn 0) "[I" host ∈ jnw := Or.inr ⟨"SkinShow", jnw_of (jtb_2 (i := 164) rfl) rfl⟩
theorem ks_X7_140 : Cond.fieldLink RX7 140 "SkinShow" (jtn 2) "[I" ∈ jgw ∨ ∃ host, Cond.fieldLinkNest RX7 140 "SkinShow" (jtn 2) "[I" host ∈ jnw := Or.inl (jgw_of (jtb_2 (i := 186) rfl) rfl)
theorem ks_X7_143 : Cond.fieldLink RX7 143 "SkinShow" (jtn 3) "[I" ∈ jgw ∨ ∃ host, Cond.fieldLinkNest RX7 143 "SkinShow" (jtn 3) "[I" host ∈ jnw := Or.inl (jgw_of (jtb_2 (i := 188) rfl) rfl)
theorem kc_X4_64 : Cond.constant RX4 64 (-1000000005) ∈ jgw := jgw_of (jtb_1 (i := 32) rfl) rfl
theorem kc_X0_38 : Cond.constant RX0 38 (-1000000005) ∈ jgw := jgw_of (jtb_1 (i := 230) rfl) rfl
theorem kc_X7_80 : Cond.constant RX7 80 (-1000000001) ∈ jgw := jgw_of (jtb_2 (i := 129) rfl) rfl
theorem kc_X7_84 : Cond.constant RX7 84 (-1000000005) ∈ jgw := jgw_of (jtb_2 (i := 130) rfl) rfl
theorem kc_X7_85 : Cond.constant RX7 85 (-1000000002) ∈ jgw := jgw_of (jtb_2 (i := 131) rfl) rfl
theorem kc_X7_89 : Cond.constant RX7 89 (-1000000003) ∈ jgw := jgw_of (jtb_2 (i := 132) rfl) rfl
theorem kc_X7_126 : Cond.constant RX7 126 (-1000000012) ∈ jgw := jgw_of (jtb_2 (i := 166) rfl) rfl
theorem kc_X7_191 : Cond.constant RX7 191 (-1000000014) ∈ jgw := jgw_of (jtb_3 (i := 28) rfl) rfl
theorem kc_X7_195 : Cond.constant RX7 195 (-1000000011) ∈ jgw := jgw_of (jtb_3 (i := 33) rfl) rfl
theorem kc_X7_199 : Cond.constant RX7 199 (-1000000013) ∈ jgw := jgw_of (jtb_3 (i := 34) rfl) rfl
theorem kc_X1_53 : Cond.constant RX1 53 (-1000000005) ∈ jgw := jgw_of (jtb_3 (i := 80) rfl) rfl
theorem kc_J2_227 : Cond.constant RJ2 227 (65536) ∈ jgw := jgw_of (jtb_3 (i := 236) rfl) rfl
theorem kc_J11_110 : Cond.constant RJ11 110 (55232) ∈ jgw := jgw_of (jtb_4 (i := 21) rfl) rfl
theorem kc_J11_76 : Cond.constant RJ11 76 (56320) ∈ jgw := jgw_of (jtb_4 (i := 25) rfl) rfl
theorem kc_X6_49 : Cond.constant RX6 49 (-1000000005) ∈ jgw := jgw_of (jtb_4 (i := 58) rfl) rfl
theorem kc_J6_265 : Cond.constant RJ6 265 (1431655765) ∈ jgw := jgw_of (jtb_4 (i := 223) rfl) rfl
theorem kc_J6_266 : Cond.constant RJ6 266 (858993459) ∈ jgw := jgw_of (jtb_4 (i := 224) rfl) rfl
theorem kc_J6_267 : Cond.constant RJ6 267 (252645135) ∈ jgw := jgw_of (jtb_4 (i := 225) rfl) rfl
theorem kc_X7_317 : Cond.constant RX7 317 (536870911) ∈ jgw := jgw_of (jtb_4 (i := 230) rfl) rfl
theorem kc_X8_91 : Cond.constant RX8 91 (-1000000001) ∈ jgw := jgw_of (jtb_5 (i := 176) rfl) rfl
theorem kc_X8_95 : Cond.constant RX8 95 (-1000000002) ∈ jgw := jgw_of (jtb_5 (i := 185) rfl) rfl
theorem kc_X8_96 : Cond.constant RX8 96 (-1000000003) ∈ jgw := jgw_of (jtb_5 (i := 186) rfl) rfl
theorem kc_X8_116 : Cond.constant RX8 116 (-1000000012) ∈ jgw := jgw_of (jtb_5 (i := 218) rfl) rfl
theorem kc_X8_66 : Cond.constant RX8 66 (-1000000005) ∈ jgw := jgw_of (jtb_6 (i := 19) rfl) rfl
theorem kc_X8_165 : Cond.constant RX8 165 (-1000000014) ∈ jgw := jgw_of (jtb_6 (i := 66) rfl) rfl
theorem kc_X8_166 : Cond.constant RX8 166 (-1000000011) ∈ jgw := jgw_of (jtb_6 (i := 71) rfl) rfl
theorem kc_X8_167 : Cond.constant RX8 167 (-1000000013) ∈ jgw := jgw_of (jtb_6 (i := 72) rfl) rfl
theorem kg_X8_79 : Cond.constantLong RX8 79 (5) ∈ jgw := jgw_of (jtb_5 (i := 167) rfl) rfl
theorem kg_X8_75 : Cond.constantLong RX8 75 (47) ∈ jgw := jgw_of (jtb_5 (i := 174) rfl) rfl
theorem kg_X8_89 : Cond.constantLong RX8 89 (9) ∈ jgw := jgw_of (jtb_5 (i := 175) rfl) rfl
theorem kg_X8_123 : Cond.constantLong RX8 123 (99) ∈ jgw := jgw_of (jtb_6 (i := 2) rfl) rfl
theorem kg_X8_125 : Cond.constantLong RX8 125 (48) ∈ jgw := jgw_of (jtb_6 (i := 3) rfl) rfl
theorem kg_X8_77 : Cond.constantLong RX8 77 (3) ∈ jgw := jgw_of (jtb_6 (i := 8) rfl) rfl
theorem kg_X8_142 : Cond.constantLong RX8 142 (60) ∈ jgw := jgw_of (jtb_6 (i := 24) rfl) rfl
theorem kg_X8_158 : Cond.constantLong RX8 158 (23) ∈ jgw := jgw_of (jtb_6 (i := 64) rfl) rfl
theorem kg_X8_163 : Cond.constantLong RX8 163 (-1) ∈ jgw := jgw_of (jtb_6 (i := 65) rfl) rfl
theorem kg_X8_268 : Cond.constantLong RX8 268 (9999) ∈ jgw := jgw_of (jtb_6 (i := 111) rfl) rfl
theorem kg_X8_184 : Cond.constantLong RX8 184 (97) ∈ jgw := jgw_of (jtb_6 (i := 128) rfl) rfl
theorem kg_X8_186 : Cond.constantLong RX8 186 (122) ∈ jgw := jgw_of (jtb_6 (i := 129) rfl) rfl
theorem kg_X8_188 : Cond.constantLong RX8 188 (57) ∈ jgw := jgw_of (jtb_6 (i := 134) rfl) rfl
theorem kg_X8_276 : Cond.constantLong RX8 276 (2) ∈ jgw := jgw_of (jtb_6 (i := 186) rfl) rfl
theorem kg_X8_278 : Cond.constantLong RX8 278 (6) ∈ jgw := jgw_of (jtb_6 (i := 191) rfl) rfl
theorem kg_X8_312 : Cond.constantLong RX8 312 (4) ∈ jgw := jgw_of (jtb_7 (i := 3) rfl) rfl
theorem kg_X8_317 : Cond.constantLong RX8 317 (999) ∈ jgw := jgw_of (jtb_7 (i := 15) rfl) rfl
theorem kg_X8_348 : Cond.constantLong RX8 348 (15) ∈ jgw := jgw_of (jtb_7 (i := 44) rfl) rfl
theorem kg_X8_356 : Cond.constantLong RX8 356 (536870911) ∈ jgw := jgw_of (jtb_7 (i := 60) rfl) rfl
theorem kg_X8_358 : Cond.constantLong RX8 358 (28) ∈ jgw := jgw_of (jtb_7 (i := 65) rfl) rfl
theorem kg_X8_369 : Cond.constantLong RX8 369 (30) ∈ jgw := jgw_of (jtb_7 (i := 90) rfl) rfl
theorem km_X0_init : Cond.code eX0_init.1 eX0_init.2.1 eX0_init.2.2.1 eX0_init.2.2.2 ∈ jgw := jgw_of (jtb_1 (i := 228) rfl) rfl
theorem km_X0_face : Cond.code eX0_face.1 eX0_face.2.1 eX0_face.2.2.1 eX0_face.2.2.2 ∈ jgw := jgw_of (jtb_4 (i := 86) rfl) rfl
theorem km_X0_look : Cond.code eX0_look.1 eX0_look.2.1 eX0_look.2.2.1 eX0_look.2.2.2 ∈ jgw := jgw_of (jtb_4 (i := 91) rfl) rfl
theorem km_X0_findMoves : Cond.code eX0_findMoves.1 eX0_findMoves.2.1 eX0_findMoves.2.2.1 eX0_findMoves.2.2.2 ∈ jgw := jgw_of (jtb_4 (i := 96) rfl) rfl
theorem km_X0_findEdges : Cond.code eX0_findEdges.1 eX0_findEdges.2.1 eX0_findEdges.2.2.1 eX0_findEdges.2.2.2 ∈ jgw := jgw_of (jtb_4 (i := 101) rfl) rfl
theorem km_X0_markEdge : Cond.code eX0_markEdge.1 eX0_markEdge.2.1 eX0_markEdge.2.2.1 eX0_markEdge.2.2.2 ∈ jgw := jgw_of (jtb_4 (i := 105) rfl) rfl
theorem km_X0_sees : Cond.code eX0_sees.1 eX0_sees.2.1 eX0_sees.2.2.1 eX0_sees.2.2.2 ∈ jgw := jgw_of (jtb_4 (i := 109) rfl) rfl
theorem km_X0_spotAll : Cond.code eX0_spotAll.1 eX0_spotAll.2.1 eX0_spotAll.2.2.1 eX0_spotAll.2.2.2 ∈ jgw := jgw_of (jtb_4 (i := 122) rfl) rfl
theorem km_X0_allDiffering : Cond.code eX0_allDiffering.1 eX0_allDiffering.2.1 eX0_allDiffering.2.2.1 eX0_allDiffering.2.2.2 ∈ jgw := jgw_of (jtb_4 (i := 195) rfl) rfl
theorem km_X0_gather : Cond.code eX0_gather.1 eX0_gather.2.1 eX0_gather.2.2.1 eX0_gather.2.2.2 ∈ jgw := jgw_of (jtb_4 (i := 127) rfl) rfl
theorem km_X0_follow : Cond.code eX0_follow.1 eX0_follow.2.1 eX0_follow.2.2.1 eX0_follow.2.2.2 ∈ jgw := jgw_of (jtb_4 (i := 131) rfl) rfl
theorem km_X1_init : Cond.code eX1_init.1 eX1_init.2.1 eX1_init.2.2.1 eX1_init.2.2.2 ∈ jgw := jgw_of (jtb_1 (i := 116) rfl) rfl
theorem km_X1_make : Cond.code eX1_make.1 eX1_make.2.1 eX1_make.2.2.1 eX1_make.2.2.2 ∈ jgw := jgw_of (jtb_3 (i := 27) rfl) rfl
theorem km_X1_has : Cond.code eX1_has.1 eX1_has.2.1 eX1_has.2.2.1 eX1_has.2.2.2 ∈ jgw := jgw_of (jtb_3 (i := 42) rfl) rfl
theorem km_X1_linesThere : Cond.code eX1_linesThere.1 eX1_linesThere.2.1 eX1_linesThere.2.2.1 eX1_linesThere.2.2.2 ∈ jgw := jgw_of (jtb_5 (i := 44) rfl) rfl
theorem km_X1_shadeAt : Cond.code eX1_shadeAt.1 eX1_shadeAt.2.1 eX1_shadeAt.2.2.1 eX1_shadeAt.2.2.2 ∈ jgw := jgw_of (jtb_3 (i := 54) rfl) rfl
theorem km_X1_askAll : Cond.code eX1_askAll.1 eX1_askAll.2.1 eX1_askAll.2.2.1 eX1_askAll.2.2.2 ∈ jgw := jgw_of (jtb_3 (i := 63) rfl) rfl
theorem km_X1_mean : Cond.code eX1_mean.1 eX1_mean.2.1 eX1_mean.2.2.1 eX1_mean.2.2.2 ∈ jgw := jgw_of (jtb_3 (i := 68) rfl) rfl
theorem km_X1_difference : Cond.code eX1_difference.1 eX1_difference.2.1 eX1_difference.2.2.1 eX1_difference.2.2.2 ∈ jgw := jgw_of (jtb_3 (i := 76) rfl) rfl
theorem km_X1_allDifferences : Cond.code eX1_allDifferences.1 eX1_allDifferences.2.1 eX1_allDifferences.2.2.1 eX1_allDifferences.2.2.2 ∈ jgw := jgw_of (jtb_3 (i := 72) rfl) rfl
theorem km_X1_allEdges : Cond.code eX1_allEdges.1 eX1_allEdges.2.1 eX1_allEdges.2.2.1 eX1_allEdges.2.2.2 ∈ jgw := jgw_of (jtb_3 (i := 85) rfl) rfl
theorem km_X1_brightOnes : Cond.code eX1_brightOnes.1 eX1_brightOnes.2.1 eX1_brightOnes.2.2.1 eX1_brightOnes.2.2.2 ∈ jgw := jgw_of (jtb_3 (i := 89) rfl) rfl
theorem km_X2_init : Cond.code eX2_init.1 eX2_init.2.1 eX2_init.2.2.1 eX2_init.2.2.2 ∈ jgw := jgw_of (jtb_2 (i := 66) rfl) rfl
theorem km_X2_tellsApart : Cond.code eX2_tellsApart.1 eX2_tellsApart.2.1 eX2_tellsApart.2.2.1 eX2_tellsApart.2.2.2 ∈ jgw := jgw_of (jtb_4 (i := 211) rfl) rfl
theorem km_X2_differ : Cond.code eX2_differ.1 eX2_differ.2.1 eX2_differ.2.2.1 eX2_differ.2.2.2 ∈ jgw := jgw_of (jtb_4 (i := 215) rfl) rfl
theorem km_X2_marksOf : Cond.code eX2_marksOf.1 eX2_marksOf.2.1 eX2_marksOf.2.2.1 eX2_marksOf.2.2.2 ∈ jgw := jgw_of (jtb_4 (i := 238) rfl) rfl
theorem km_X2_unlike : Cond.code eX2_unlike.1 eX2_unlike.2.1 eX2_unlike.2.2.1 eX2_unlike.2.2.2 ∈ jgw := jgw_of (jtb_5 (i := 6) rfl) rfl
theorem km_X3_init : Cond.code eX3_init.1 eX3_init.2.1 eX3_init.2.2.1 eX3_init.2.2.2 ∈ jgw := jgw_of (jtb_2 (i := 29) rfl) rfl
theorem km_X3_choose : Cond.code eX3_choose.1 eX3_choose.2.1 eX3_choose.2.2.1 eX3_choose.2.2.2 ∈ jgw := jgw_of (jtb_4 (i := 140) rfl) rfl
theorem km_X3_begin : Cond.code eX3_begin.1 eX3_begin.2.1 eX3_begin.2.2.1 eX3_begin.2.2.2 ∈ jgw := jgw_of (jtb_4 (i := 145) rfl) rfl
theorem km_X3_allTries : Cond.code eX3_allTries.1 eX3_allTries.2.1 eX3_allTries.2.2.1 eX3_allTries.2.2.2 ∈ jgw := jgw_of (jtb_4 (i := 160) rfl) rfl
theorem km_X3_seek : Cond.code eX3_seek.1 eX3_seek.2.1 eX3_seek.2.2.1 eX3_seek.2.2.2 ∈ jgw := jgw_of (jtb_4 (i := 156) rfl) rfl
theorem km_X3_match : Cond.code eX3_match.1 eX3_match.2.1 eX3_match.2.2.1 eX3_match.2.2.2 ∈ jgw := jgw_of (jtb_4 (i := 191) rfl) rfl
theorem km_X3_weigh : Cond.code eX3_weigh.1 eX3_weigh.2.1 eX3_weigh.2.2.1 eX3_weigh.2.2.2 ∈ jgw := jgw_of (jtb_4 (i := 183) rfl) rfl
theorem km_X3_findIdle : Cond.code eX3_findIdle.1 eX3_findIdle.2.1 eX3_findIdle.2.2.1 eX3_findIdle.2.2.2 ∈ jgw := jgw_of (jtb_4 (i := 151) rfl) rfl
theorem km_X3_puts : Cond.code eX3_puts.1 eX3_puts.2.1 eX3_puts.2.2.1 eX3_puts.2.2.2 ∈ jgw := jgw_of (jtb_4 (i := 168) rfl) rfl
theorem km_X3_allSeen : Cond.code eX3_allSeen.1 eX3_allSeen.2.1 eX3_allSeen.2.2.1 eX3_allSeen.2.2.2 ∈ jgw := jgw_of (jtb_4 (i := 173) rfl) rfl
theorem km_X3_forgetJudged : Cond.code eX3_forgetJudged.1 eX3_forgetJudged.2.1 eX3_forgetJudged.2.2.1 eX3_forgetJudged.2.2.2 ∈ jgw := jgw_of (jtb_4 (i := 164) rfl) rfl
theorem km_X3_seenOnce : Cond.code eX3_seenOnce.1 eX3_seenOnce.2.1 eX3_seenOnce.2.2.1 eX3_seenOnce.2.2.2 ∈ jgw := jgw_of (jtb_4 (i := 178) rfl) rfl
theorem km_X4_init : Cond.code eX4_init.1 eX4_init.2.1 eX4_init.2.2.1 eX4_init.2.2.2 ∈ jgw := jgw_of (jtb_1 (i := 30) rfl) rfl
theorem km_X4_becomes : Cond.code eX4_becomes.1 eX4_becomes.2.1 eX4_becomes.2.2.1 eX4_becomes.2.2.2 ∈ jgw := jgw_of (jtb_3 (i := 15) rfl) rfl
theorem km_X4_add : Cond.code eX4_add.1 eX4_add.2.1 eX4_add.2.2.1 eX4_add.2.2.2 ∈ jgw := jgw_of (jtb_2 (i := 136) rfl) rfl
theorem km_X4_isOf : Cond.code eX4_isOf.1 eX4_isOf.2.1 eX4_isOf.2.2.1 eX4_isOf.2.2.2 ∈ jgw := jgw_of (jtb_2 (i := 163) rfl) rfl
theorem km_X4_aimOf : Cond.code eX4_aimOf.1 eX4_aimOf.2.1 eX4_aimOf.2.2.1 eX4_aimOf.2.2.2 ∈ jgw := jgw_of (jtb_2 (i := 144) rfl) rfl
theorem km_X4_paceOf : Cond.code eX4_paceOf.1 eX4_paceOf.2.1 eX4_paceOf.2.2.1 eX4_paceOf.2.2.2 ∈ jgw := jgw_of (jtb_2 (i := 151) rfl) rfl
theorem km_X4_givenBy : Cond.code eX4_givenBy.1 eX4_givenBy.2.1 eX4_givenBy.2.2.1 eX4_givenBy.2.2.2 ∈ jgw := jgw_of (jtb_2 (i := 155) rfl) rfl
theorem km_X4_heightAt : Cond.code eX4_heightAt.1 eX4_heightAt.2.1 eX4_heightAt.2.2.1 eX4_heightAt.2.2.2 ∈ jgw := jgw_of (jtb_2 (i := 201) rfl) rfl
theorem km_X4_lightAt : Cond.code eX4_lightAt.1 eX4_lightAt.2.1 eX4_lightAt.2.2.1 eX4_lightAt.2.2.2 ∈ jgw := jgw_of (jtb_2 (i := 197) rfl) rfl
theorem km_X4_markWas : Cond.code eX4_markWas.1 eX4_markWas.2.1 eX4_markWas.2.2.1 eX4_markWas.2.2.2 ∈ jgw := jgw_of (jtb_2 (i := 222) rfl) rfl
theorem km_X4_goOn : Cond.code eX4_goOn.1 eX4_goOn.2.1 eX4_goOn.2.2.1 eX4_goOn.2.2.2 ∈ jgw := jgw_of (jtb_2 (i := 218) rfl) rfl
theorem km_X4_settle : Cond.code eX4_settle.1 eX4_settle.2.1 eX4_settle.2.2.1 eX4_settle.2.2.2 ∈ jgw := jgw_of (jtb_2 (i := 234) rfl) rfl
theorem km_X4_ticksToRest : Cond.code eX4_ticksToRest.1 eX4_ticksToRest.2.1 eX4_ticksToRest.2.2.1 eX4_ticksToRest.2.2.2 ∈ jgw := jgw_of (jtb_3 (i := 4) rfl) rfl
theorem km_X4_allSizes : Cond.code eX4_allSizes.1 eX4_allSizes.2.1 eX4_allSizes.2.2.1 eX4_allSizes.2.2.2 ∈ jgw := jgw_of (jtb_5 (i := 24) rfl) rfl
theorem km_X4_partsOf : Cond.code eX4_partsOf.1 eX4_partsOf.2.1 eX4_partsOf.2.2.1 eX4_partsOf.2.2.2 ∈ jgw := jgw_of (jtb_5 (i := 40) rfl) rfl
theorem km_X5_init : Cond.code eX5_init.1 eX5_init.2.1 eX5_init.2.2.1 eX5_init.2.2.2 ∈ jgw := jgw_of (jtb_1 (i := 143) rfl) rfl
theorem km_X5_take : Cond.code eX5_take.1 eX5_take.2.1 eX5_take.2.2.1 eX5_take.2.2.2 ∈ jgw := jgw_of (jtb_3 (i := 97) rfl) rfl
theorem km_X5_read : Cond.code eX5_read.1 eX5_read.2.1 eX5_read.2.2.1 eX5_read.2.2.2 ∈ jgw := jgw_of (jtb_3 (i := 109) rfl) rfl
theorem km_X5_step : Cond.code eX5_step.1 eX5_step.2.1 eX5_step.2.2.1 eX5_step.2.2.2 ∈ jgw := jgw_of (jtb_3 (i := 117) rfl) rfl
theorem km_X5_isLetter : Cond.code eX5_isLetter.1 eX5_isLetter.2.1 eX5_isLetter.2.2.1 eX5_isLetter.2.2.2 ∈ jgw := jgw_of (jtb_3 (i := 122) rfl) rfl
theorem km_X5_isDigit : Cond.code eX5_isDigit.1 eX5_isDigit.2.1 eX5_isDigit.2.2.1 eX5_isDigit.2.2.2 ∈ jgw := jgw_of (jtb_3 (i := 126) rfl) rfl
theorem km_X5_isWord : Cond.code eX5_isWord.1 eX5_isWord.2.1 eX5_isWord.2.2.1 eX5_isWord.2.2.2 ∈ jgw := jgw_of (jtb_3 (i := 190) rfl) rfl
theorem km_X5_glued : Cond.code eX5_glued.1 eX5_glued.2.1 eX5_glued.2.2.1 eX5_glued.2.2.2 ∈ jgw := jgw_of (jtb_3 (i := 186) rfl) rfl
theorem km_X5_readHead : Cond.code eX5_readHead.1 eX5_readHead.2.1 eX5_readHead.2.2.1 eX5_readHead.2.2.2 ∈ jgw := jgw_of (jtb_3 (i := 113) rfl) rfl
theorem km_X5_spells : Cond.code eX5_spells.1 eX5_spells.2.1 eX5_spells.2.2.1 eX5_spells.2.2.2 ∈ jgw := jgw_of (jtb_3 (i := 131) rfl) rfl
theorem km_X5_readPiece : Cond.code eX5_readPiece.1 eX5_readPiece.2.1 eX5_readPiece.2.2.1 eX5_readPiece.2.2.2 ∈ jgw := jgw_of (jtb_3 (i := 194) rfl) rfl
theorem km_X5_hold : Cond.code eX5_hold.1 eX5_hold.2.1 eX5_hold.2.2.1 eX5_hold.2.2.2 ∈ jgw := jgw_of (jtb_4 (i := 29) rfl) rfl
theorem km_X5_putDown : Cond.code eX5_putDown.1 eX5_putDown.2.1 eX5_putDown.2.2.1 eX5_putDown.2.2.2 ∈ jgw := jgw_of (jtb_3 (i := 206) rfl) rfl
theorem km_X5_number : Cond.code eX5_number.1 eX5_number.2.1 eX5_number.2.2.1 eX5_number.2.2.2 ∈ jgw := jgw_of (jtb_3 (i := 198) rfl) rfl
theorem km_X5_putOperand : Cond.code eX5_putOperand.1 eX5_putOperand.2.1 eX5_putOperand.2.2.1 eX5_putOperand.2.2.2 ∈ jgw := jgw_of (jtb_3 (i := 202) rfl) rfl
theorem km_X5_endPiece : Cond.code eX5_endPiece.1 eX5_endPiece.2.1 eX5_endPiece.2.2.1 eX5_endPiece.2.2.2 ∈ jgw := jgw_of (jtb_3 (i := 210) rfl) rfl
theorem km_X5_readLink : Cond.code eX5_readLink.1 eX5_readLink.2.1 eX5_readLink.2.2.1 eX5_readLink.2.2.2 ∈ jgw := jgw_of (jtb_4 (i := 33) rfl) rfl
theorem km_X5_close : Cond.code eX5_close.1 eX5_close.2.1 eX5_close.2.2.1 eX5_close.2.2.2 ∈ jgw := jgw_of (jtb_4 (i := 37) rfl) rfl
theorem km_X5_levelOf : Cond.code eX5_levelOf.1 eX5_levelOf.2.1 eX5_levelOf.2.2.1 eX5_levelOf.2.2.2 ∈ jgw := jgw_of (jtb_4 (i := 40) rfl) rfl
theorem km_X6_init : Cond.code eX6_init.1 eX6_init.2.1 eX6_init.2.2.1 eX6_init.2.2.2 ∈ jgw := jgw_of (jtb_1 (i := 199) rfl) rfl
theorem km_X6_store : Cond.code eX6_store.1 eX6_store.2.1 eX6_store.2.2.1 eX6_store.2.2.2 ∈ jgw := jgw_of (jtb_4 (i := 44) rfl) rfl
theorem km_X6_counting : Cond.code eX6_counting.1 eX6_counting.2.1 eX6_counting.2.2.1 eX6_counting.2.2.2 ∈ jgw := jgw_of (jtb_4 (i := 57) rfl) rfl
theorem km_X6_worth : Cond.code eX6_worth.1 eX6_worth.2.1 eX6_worth.2.2.1 eX6_worth.2.2.2 ∈ jgw := jgw_of (jtb_4 (i := 66) rfl) rfl
theorem km_X6_joined : Cond.code eX6_joined.1 eX6_joined.2.1 eX6_joined.2.2.1 eX6_joined.2.2.2 ∈ jgw := jgw_of (jtb_4 (i := 69) rfl) rfl
theorem km_X7_init : Cond.code eX7_init.1 eX7_init.2.1 eX7_init.2.2.1 eX7_init.2.2.2 ∈ jgw := jgw_of (jtb_1 (i := 22) rfl) rfl
theorem km_X7_part : Cond.code eX7_part.1 eX7_part.2.1 eX7_part.2.2.1 eX7_part.2.2.2 ∈ jgw := jgw_of (jtb_2 (i := 125) rfl) rfl
theorem km_X7_told : Cond.code eX7_told.1 eX7_told.2.1 eX7_told.2.2.1 eX7_told.2.2.2 ∈ jgw := jgw_of (jtb_2 (i := 140) rfl) rfl
theorem km_X7_as : Cond.code eX7_as.1 eX7_as.2.1 eX7_as.2.2.1 eX7_as.2.2.2 ∈ jgw := jgw_of (jtb_2 (i := 159) rfl) rfl
theorem km_X7_dies : Cond.code eX7_dies.1 eX7_dies.2.1 eX7_dies.2.2.1 eX7_dies.2.2.2 ∈ jgw := jgw_of (jtb_2 (i := 170) rfl) rfl
theorem km_X7_nerve : Cond.code eX7_nerve.1 eX7_nerve.2.1 eX7_nerve.2.2.1 eX7_nerve.2.2.2 ∈ jgw := jgw_of (jtb_2 (i := 174) rfl) rfl
theorem km_X7_pull : Cond.code eX7_pull.1 eX7_pull.2.1 eX7_pull.2.2.1 eX7_pull.2.2.2 ∈ jgw := jgw_of (jtb_2 (i := 181) rfl) rfl
theorem km_X7_rule : Cond.code eX7_rule.1 eX7_rule.2.1 eX7_rule.2.2.1 eX7_rule.2.2.2 ∈ jgw := jgw_of (jtb_2 (i := 185) rfl) rfl
theorem km_X7_show : Cond.code eX7_show.1 eX7_show.2.1 eX7_show.2.2.1 eX7_show.2.2.2 ∈ jgw := jgw_of (jtb_2 (i := 193) rfl) rfl
theorem km_X7_tick : Cond.code eX7_tick.1 eX7_tick.2.1 eX7_tick.2.2.1 eX7_tick.2.2.2 ∈ jgw := jgw_of (jtb_2 (i := 214) rfl) rfl
theorem km_X7_rest : Cond.code eX7_rest.1 eX7_rest.2.1 eX7_rest.2.2.1 eX7_rest.2.2.2 ∈ jgw := jgw_of (jtb_2 (i := 230) rfl) rfl
theorem km_X7_still : Cond.code eX7_still.1 eX7_still.2.1 eX7_still.2.2.1 eX7_still.2.2.2 ∈ jgw := jgw_of (jtb_3 (i := 0) rfl) rfl
theorem km_X7_change : Cond.code eX7_change.1 eX7_change.2.1 eX7_change.2.2.1 eX7_change.2.2.2 ∈ jgw := jgw_of (jtb_3 (i := 11) rfl) rfl
theorem km_X7_line : Cond.code eX7_line.1 eX7_line.2.1 eX7_line.2.2.1 eX7_line.2.2.2 ∈ jgw := jgw_of (jtb_3 (i := 23) rfl) rfl
theorem km_X7_put : Cond.code eX7_put.1 eX7_put.2.1 eX7_put.2.2.1 eX7_put.2.2.2 ∈ jgw := jgw_of (jtb_3 (i := 32) rfl) rfl
theorem km_X7_copy : Cond.code eX7_copy.1 eX7_copy.2.1 eX7_copy.2.2.1 eX7_copy.2.2.2 ∈ jgw := jgw_of (jtb_3 (i := 38) rfl) rfl
theorem km_X7_ground : Cond.code eX7_ground.1 eX7_ground.2.1 eX7_ground.2.2.1 eX7_ground.2.2.2 ∈ jgw := jgw_of (jtb_3 (i := 47) rfl) rfl
theorem km_X7_ask : Cond.code eX7_ask.1 eX7_ask.2.1 eX7_ask.2.2.1 eX7_ask.2.2.2 ∈ jgw := jgw_of (jtb_3 (i := 59) rfl) rfl
theorem km_X7_feed : Cond.code eX7_feed.1 eX7_feed.2.1 eX7_feed.2.2.1 eX7_feed.2.2.2 ∈ jgw := jgw_of (jtb_3 (i := 93) rfl) rfl
theorem km_X7_trim : Cond.code eX7_trim.1 eX7_trim.2.1 eX7_trim.2.2.1 eX7_trim.2.2.2 ∈ jgw := jgw_of (jtb_3 (i := 101) rfl) rfl
theorem km_X7_text : Cond.code eX7_text.1 eX7_text.2.1 eX7_text.2.2.1 eX7_text.2.2.2 ∈ jgw := jgw_of (jtb_3 (i := 105) rfl) rfl
theorem km_X7_of : Cond.code eX7_of.1 eX7_of.2.1 eX7_of.2.2.1 eX7_of.2.2.2 ∈ jgw := jgw_of (jtb_4 (i := 49) rfl) rfl
theorem km_X7_why : Cond.code eX7_why.1 eX7_why.2.1 eX7_why.2.2.1 eX7_why.2.2.2 ∈ jgw := jgw_of (jtb_4 (i := 53) rfl) rfl
theorem km_X7_gives : Cond.code eX7_gives.1 eX7_gives.2.1 eX7_gives.2.2.1 eX7_gives.2.2.2 ∈ jgw := jgw_of (jtb_4 (i := 62) rfl) rfl
theorem km_X7_habit : Cond.code eX7_habit.1 eX7_habit.2.1 eX7_habit.2.2.1 eX7_habit.2.2.2 ∈ jgw := jgw_of (jtb_4 (i := 73) rfl) rfl
theorem km_X7_seen : Cond.code eX7_seen.1 eX7_seen.2.1 eX7_seen.2.2.1 eX7_seen.2.2.2 ∈ jgw := jgw_of (jtb_4 (i := 78) rfl) rfl
theorem km_X7_beast : Cond.code eX7_beast.1 eX7_beast.2.1 eX7_beast.2.2.1 eX7_beast.2.2.2 ∈ jgw := jgw_of (jtb_4 (i := 114) rfl) rfl
theorem km_X7_hide : Cond.code eX7_hide.1 eX7_hide.2.1 eX7_hide.2.2.1 eX7_hide.2.2.2 ∈ jgw := jgw_of (jtb_4 (i := 136) rfl) rfl
theorem km_X7_misses : Cond.code eX7_misses.1 eX7_misses.2.1 eX7_misses.2.2.1 eX7_misses.2.2.2 ∈ jgw := jgw_of (jtb_4 (i := 187) rfl) rfl
theorem km_X7_half : Cond.code eX7_half.1 eX7_half.2.1 eX7_half.2.2.1 eX7_half.2.2.2 ∈ jgw := jgw_of (jtb_4 (i := 199) rfl) rfl
theorem km_X7_learn : Cond.code eX7_learn.1 eX7_learn.2.1 eX7_learn.2.2.1 eX7_learn.2.2.2 ∈ jgw := jgw_of (jtb_4 (i := 203) rfl) rfl
theorem km_X7_apart : Cond.code eX7_apart.1 eX7_apart.2.1 eX7_apart.2.2.1 eX7_apart.2.2.2 ∈ jgw := jgw_of (jtb_4 (i := 207) rfl) rfl
theorem km_X7_fewest : Cond.code eX7_fewest.1 eX7_fewest.2.1 eX7_fewest.2.2.1 eX7_fewest.2.2.2 ∈ jgw := jgw_of (jtb_4 (i := 219) rfl) rfl
theorem km_X7_watch : Cond.code eX7_watch.1 eX7_watch.2.1 eX7_watch.2.2.1 eX7_watch.2.2.2 ∈ jgw := jgw_of (jtb_4 (i := 229) rfl) rfl
theorem km_X7_alike : Cond.code eX7_alike.1 eX7_alike.2.1 eX7_alike.2.2.1 eX7_alike.2.2.2 ∈ jgw := jgw_of (jtb_4 (i := 234) rfl) rfl
theorem km_X7_kinds : Cond.code eX7_kinds.1 eX7_kinds.2.1 eX7_kinds.2.2.1 eX7_kinds.2.2.2 ∈ jgw := jgw_of (jtb_5 (i := 2) rfl) rfl
theorem km_X7_parts : Cond.code eX7_parts.1 eX7_parts.2.1 eX7_parts.2.2.1 eX7_parts.2.2.2 ∈ jgw := jgw_of (jtb_5 (i := 12) rfl) rfl
theorem km_X7_tell : Cond.code eX7_tell.1 eX7_tell.2.1 eX7_tell.2.2.1 eX7_tell.2.2.2 ∈ jgw := jgw_of (jtb_5 (i := 16) rfl) rfl
theorem km_X7_check : Cond.code eX7_check.1 eX7_check.2.1 eX7_check.2.2.1 eX7_check.2.2.2 ∈ jgw := jgw_of (jtb_5 (i := 20) rfl) rfl
theorem km_X7_keep : Cond.code eX7_keep.1 eX7_keep.2.1 eX7_keep.2.2.1 eX7_keep.2.2.2 ∈ jgw := jgw_of (jtb_5 (i := 28) rfl) rfl
theorem km_X7_back : Cond.code eX7_back.1 eX7_back.2.1 eX7_back.2.2.1 eX7_back.2.2.2 ∈ jgw := jgw_of (jtb_5 (i := 32) rfl) rfl
theorem km_X7_count : Cond.code eX7_count.1 eX7_count.2.1 eX7_count.2.2.1 eX7_count.2.2.2 ∈ jgw := jgw_of (jtb_5 (i := 36) rfl) rfl
theorem km_X7_lookAt : Cond.code eX7_lookAt.1 eX7_lookAt.2.1 eX7_lookAt.2.2.1 eX7_lookAt.2.2.2 ∈ jgw := jgw_of (jtb_4 (i := 82) rfl) rfl
theorem km_X7_spotAll : Cond.code eX7_spotAll.1 eX7_spotAll.2.1 eX7_spotAll.2.2.1 eX7_spotAll.2.2.2 ∈ jgw := jgw_of (jtb_4 (i := 118) rfl) rfl
theorem km_X7_within : Cond.code eX7_within.1 eX7_within.2.1 eX7_within.2.2.1 eX7_within.2.2.2 ∈ jgw := jgw_of (jtb_2 (i := 128) rfl) rfl
theorem km_X7_isGround : Cond.code eX7_isGround.1 eX7_isGround.2.1 eX7_isGround.2.2.1 eX7_isGround.2.2.2 ∈ jgw := jgw_of (jtb_3 (i := 50) rfl) rfl
theorem km_X7_held : Cond.code eX7_held.1 eX7_held.2.1 eX7_held.2.2.1 eX7_held.2.2.2 ∈ jgw := jgw_of (jtb_2 (i := 205) rfl) rfl
theorem km_X7_replaced : Cond.code eX7_replaced.1 eX7_replaced.2.1 eX7_replaced.2.2.1 eX7_replaced.2.2.2 ∈ jgw := jgw_of (jtb_2 (i := 177) rfl) rfl
theorem km_X7_beside : Cond.code eX7_beside.1 eX7_beside.2.1 eX7_beside.2.2.1 eX7_beside.2.2.2 ∈ jgw := jgw_of (jtb_3 (i := 79) rfl) rfl
theorem km_X8_init : Cond.code eX8_init.1 eX8_init.2.1 eX8_init.2.2.1 eX8_init.2.2.2 ∈ jgw := jgw_of (jtb_5 (i := 49) rfl) rfl
theorem km_X8_isIn : Cond.code eX8_isIn.1 eX8_isIn.2.1 eX8_isIn.2.2.1 eX8_isIn.2.2.2 ∈ jgw := jgw_of (jtb_5 (i := 170) rfl) rfl
theorem km_X8_orNone : Cond.code eX8_orNone.1 eX8_orNone.2.1 eX8_orNone.2.2.1 eX8_orNone.2.2.2 ∈ jgw := jgw_of (jtb_6 (i := 18) rfl) rfl
theorem km_X8_least : Cond.code eX8_least.1 eX8_least.2.1 eX8_least.2.2.1 eX8_least.2.2.2 ∈ jgw := jgw_of (jtb_5 (i := 205) rfl) rfl
theorem km_X8_size : Cond.code eX8_size.1 eX8_size.2.1 eX8_size.2.2.1 eX8_size.2.2.2 ∈ jgw := jgw_of (jtb_6 (i := 35) rfl) rfl
theorem km_X8_held : Cond.code eX8_held.1 eX8_held.2.1 eX8_held.2.2.1 eX8_held.2.2.2 ∈ jgw := jgw_of (jtb_6 (i := 15) rfl) rfl
theorem km_X8_becomes : Cond.code eX8_becomes.1 eX8_becomes.2.1 eX8_becomes.2.2.1 eX8_becomes.2.2.2 ∈ jgw := jgw_of (jtb_5 (i := 233) rfl) rfl
theorem km_X8_partAt : Cond.code eX8_partAt.1 eX8_partAt.2.1 eX8_partAt.2.2.1 eX8_partAt.2.2.2 ∈ jgw := jgw_of (jtb_5 (i := 184) rfl) rfl
theorem km_X8_textAt : Cond.code eX8_textAt.1 eX8_textAt.2.1 eX8_textAt.2.2.1 eX8_textAt.2.2.2 ∈ jgw := jgw_of (jtb_6 (i := 119) rfl) rfl
theorem km_X8_isPart : Cond.code eX8_isPart.1 eX8_isPart.2.1 eX8_isPart.2.2.1 eX8_isPart.2.2.2 ∈ jgw := jgw_of (jtb_5 (i := 194) rfl) rfl
theorem km_X8_isText : Cond.code eX8_isText.1 eX8_isText.2.1 eX8_isText.2.2.1 eX8_isText.2.2.2 ∈ jgw := jgw_of (jtb_6 (i := 185) rfl) rfl
theorem km_X8_isPlace : Cond.code eX8_isPlace.1 eX8_isPlace.2.1 eX8_isPlace.2.2.1 eX8_isPlace.2.2.2 ∈ jgw := jgw_of (jtb_5 (i := 173) rfl) rfl
theorem km_X8_isGround : Cond.code eX8_isGround.1 eX8_isGround.2.1 eX8_isGround.2.2.1 eX8_isGround.2.2.2 ∈ jgw := jgw_of (jtb_6 (i := 83) rfl) rfl
theorem km_X8_isGroup : Cond.code eX8_isGroup.1 eX8_isGroup.2.1 eX8_isGroup.2.2.1 eX8_isGroup.2.2.2 ∈ jgw := jgw_of (jtb_5 (i := 229) rfl) rfl
theorem km_X8_onPlace : Cond.code eX8_onPlace.1 eX8_onPlace.2.1 eX8_onPlace.2.2.1 eX8_onPlace.2.2.2 ∈ jgw := jgw_of (jtb_5 (i := 180) rfl) rfl
theorem km_X8_part : Cond.code eX8_part.1 eX8_part.2.1 eX8_part.2.2.1 eX8_part.2.2.2 ∈ jgw := jgw_of (jtb_5 (i := 166) rfl) rfl
theorem km_X8_groupOf : Cond.code eX8_groupOf.1 eX8_groupOf.2.1 eX8_groupOf.2.2.1 eX8_groupOf.2.2.2 ∈ jgw := jgw_of (jtb_5 (i := 202) rfl) rfl
theorem km_X8_aimOf : Cond.code eX8_aimOf.1 eX8_aimOf.2.1 eX8_aimOf.2.2.1 eX8_aimOf.2.2.2 ∈ jgw := jgw_of (jtb_5 (i := 198) rfl) rfl
theorem km_X8_paceOf : Cond.code eX8_paceOf.1 eX8_paceOf.2.1 eX8_paceOf.2.2.1 eX8_paceOf.2.2.2 ∈ jgw := jgw_of (jtb_5 (i := 209) rfl) rfl
theorem km_X8_givesOf : Cond.code eX8_givesOf.1 eX8_givesOf.2.1 eX8_givesOf.2.2.1 eX8_givesOf.2.2.2 ∈ jgw := jgw_of (jtb_5 (i := 213) rfl) rfl
theorem km_X8_told : Cond.code eX8_told.1 eX8_told.2.1 eX8_told.2.2.1 eX8_told.2.2.2 ∈ jgw := jgw_of (jtb_5 (i := 190) rfl) rfl
theorem km_X8_as : Cond.code eX8_as.1 eX8_as.2.1 eX8_as.2.2.1 eX8_as.2.2.2 ∈ jgw := jgw_of (jtb_5 (i := 217) rfl) rfl
theorem km_X8_dies : Cond.code eX8_dies.1 eX8_dies.2.1 eX8_dies.2.2.1 eX8_dies.2.2.2 ∈ jgw := jgw_of (jtb_5 (i := 222) rfl) rfl
theorem km_X8_nerve : Cond.code eX8_nerve.1 eX8_nerve.2.1 eX8_nerve.2.2.1 eX8_nerve.2.2.2 ∈ jgw := jgw_of (jtb_5 (i := 226) rfl) rfl
theorem km_X8_pull : Cond.code eX8_pull.1 eX8_pull.2.1 eX8_pull.2.2.1 eX8_pull.2.2.2 ∈ jgw := jgw_of (jtb_5 (i := 237) rfl) rfl
theorem km_X8_rule : Cond.code eX8_rule.1 eX8_rule.2.1 eX8_rule.2.2.1 eX8_rule.2.2.2 ∈ jgw := jgw_of (jtb_6 (i := 1) rfl) rfl
theorem km_X8_findLight : Cond.code eX8_findLight.1 eX8_findLight.2.1 eX8_findLight.2.2.1 eX8_findLight.2.2.2 ∈ jgw := jgw_of (jtb_6 (i := 12) rfl) rfl
theorem km_X8_show : Cond.code eX8_show.1 eX8_show.2.1 eX8_show.2.2.1 eX8_show.2.2.2 ∈ jgw := jgw_of (jtb_6 (i := 7) rfl) rfl
theorem km_X8_wasIsLight : Cond.code eX8_wasIsLight.1 eX8_wasIsLight.2.1 eX8_wasIsLight.2.2.1 eX8_wasIsLight.2.2.2 ∈ jgw := jgw_of (jtb_6 (i := 32) rfl) rfl
theorem km_X8_oneTick : Cond.code eX8_oneTick.1 eX8_oneTick.2.1 eX8_oneTick.2.2.1 eX8_oneTick.2.2.2 ∈ jgw := jgw_of (jtb_6 (i := 28) rfl) rfl
theorem km_X8_tick : Cond.code eX8_tick.1 eX8_tick.2.1 eX8_tick.2.2.1 eX8_tick.2.2.2 ∈ jgw := jgw_of (jtb_6 (i := 23) rfl) rfl
theorem km_X8_settle : Cond.code eX8_settle.1 eX8_settle.2.1 eX8_settle.2.2.1 eX8_settle.2.2.2 ∈ jgw := jgw_of (jtb_6 (i := 43) rfl) rfl
theorem km_X8_rest : Cond.code eX8_rest.1 eX8_rest.2.1 eX8_rest.2.2.1 eX8_rest.2.2.2 ∈ jgw := jgw_of (jtb_6 (i := 39) rfl) rfl
theorem km_X8_still : Cond.code eX8_still.1 eX8_still.2.1 eX8_still.2.2.1 eX8_still.2.2.2 ∈ jgw := jgw_of (jtb_6 (i := 47) rfl) rfl
theorem km_X8_setAside : Cond.code eX8_setAside.1 eX8_setAside.2.1 eX8_setAside.2.2.1 eX8_setAside.2.2.2 ∈ jgw := jgw_of (jtb_6 (i := 55) rfl) rfl
theorem km_X8_change : Cond.code eX8_change.1 eX8_change.2.1 eX8_change.2.2.1 eX8_change.2.2.2 ∈ jgw := jgw_of (jtb_6 (i := 51) rfl) rfl
theorem km_X8_isLine : Cond.code eX8_isLine.1 eX8_isLine.2.1 eX8_isLine.2.2.1 eX8_isLine.2.2.2 ∈ jgw := jgw_of (jtb_6 (i := 63) rfl) rfl
theorem km_X8_line : Cond.code eX8_line.1 eX8_line.2.1 eX8_line.2.2.1 eX8_line.2.2.2 ∈ jgw := jgw_of (jtb_6 (i := 60) rfl) rfl
theorem km_X8_put : Cond.code eX8_put.1 eX8_put.2.1 eX8_put.2.2.1 eX8_put.2.2.2 ∈ jgw := jgw_of (jtb_6 (i := 70) rfl) rfl
theorem km_X8_copy : Cond.code eX8_copy.1 eX8_copy.2.1 eX8_copy.2.2.1 eX8_copy.2.2.2 ∈ jgw := jgw_of (jtb_6 (i := 76) rfl) rfl
theorem km_X8_groundAt : Cond.code eX8_groundAt.1 eX8_groundAt.2.1 eX8_groundAt.2.2.1 eX8_groundAt.2.2.2 ∈ jgw := jgw_of (jtb_6 (i := 87) rfl) rfl
theorem km_X8_ground : Cond.code eX8_ground.1 eX8_ground.2.1 eX8_ground.2.2.1 eX8_ground.2.2.2 ∈ jgw := jgw_of (jtb_6 (i := 80) rfl) rfl
theorem km_X8_beside : Cond.code eX8_beside.1 eX8_beside.2.1 eX8_beside.2.2.1 eX8_beside.2.2.2 ∈ jgw := jgw_of (jtb_6 (i := 98) rfl) rfl
theorem km_X8_questionOf : Cond.code eX8_questionOf.1 eX8_questionOf.2.1 eX8_questionOf.2.2.1 eX8_questionOf.2.2.2 ∈ jgw := jgw_of (jtb_6 (i := 95) rfl) rfl
theorem km_X8_ask : Cond.code eX8_ask.1 eX8_ask.2.1 eX8_ask.2.2.1 eX8_ask.2.2.2 ∈ jgw := jgw_of (jtb_6 (i := 91) rfl) rfl
theorem km_X8_feed : Cond.code eX8_feed.1 eX8_feed.2.1 eX8_feed.2.2.1 eX8_feed.2.2.2 ∈ jgw := jgw_of (jtb_6 (i := 102) rfl) rfl
theorem km_X8_trim : Cond.code eX8_trim.1 eX8_trim.2.1 eX8_trim.2.2.1 eX8_trim.2.2.2 ∈ jgw := jgw_of (jtb_6 (i := 106) rfl) rfl
theorem km_X8_isLetter : Cond.code eX8_isLetter.1 eX8_isLetter.2.1 eX8_isLetter.2.2.1 eX8_isLetter.2.2.2 ∈ jgw := jgw_of (jtb_6 (i := 127) rfl) rfl
theorem km_X8_isDigit : Cond.code eX8_isDigit.1 eX8_isDigit.2.1 eX8_isDigit.2.2.1 eX8_isDigit.2.2.2 ∈ jgw := jgw_of (jtb_6 (i := 133) rfl) rfl
theorem km_X8_next : Cond.code eX8_next.1 eX8_next.2.1 eX8_next.2.2.1 eX8_next.2.2.2 ∈ jgw := jgw_of (jtb_6 (i := 123) rfl) rfl
theorem km_X8_isSign : Cond.code eX8_isSign.1 eX8_isSign.2.1 eX8_isSign.2.2.1 eX8_isSign.2.2.2 ∈ jgw := jgw_of (jtb_6 (i := 177) rfl) rfl
theorem km_X8_isWordAt : Cond.code eX8_isWordAt.1 eX8_isWordAt.2.1 eX8_isWordAt.2.2.1 eX8_isWordAt.2.2.2 ∈ jgw := jgw_of (jtb_6 (i := 142) rfl) rfl
theorem km_X8_key : Cond.code eX8_key.1 eX8_key.2.1 eX8_key.2.2.1 eX8_key.2.2.2 ∈ jgw := jgw_of (jtb_6 (i := 138) rfl) rfl
theorem km_X8_isName : Cond.code eX8_isName.1 eX8_isName.2.1 eX8_isName.2.2.1 eX8_isName.2.2.2 ∈ jgw := jgw_of (jtb_6 (i := 173) rfl) rfl
theorem km_X8_step : Cond.code eX8_step.1 eX8_step.2.1 eX8_step.2.2.1 eX8_step.2.2.2 ∈ jgw := jgw_of (jtb_6 (i := 170) rfl) rfl
theorem km_X8_either : Cond.code eX8_either.1 eX8_either.2.1 eX8_either.2.2.1 eX8_either.2.2.2 ∈ jgw := jgw_of (jtb_6 (i := 146) rfl) rfl
theorem km_X8_both : Cond.code eX8_both.1 eX8_both.2.1 eX8_both.2.2.1 eX8_both.2.2.2 ∈ jgw := jgw_of (jtb_6 (i := 150) rfl) rfl
theorem km_X8_test : Cond.code eX8_test.1 eX8_test.2.1 eX8_test.2.2.1 eX8_test.2.2.2 ∈ jgw := jgw_of (jtb_6 (i := 154) rfl) rfl
theorem km_X8_sum : Cond.code eX8_sum.1 eX8_sum.2.1 eX8_sum.2.2.1 eX8_sum.2.2.2 ∈ jgw := jgw_of (jtb_6 (i := 158) rfl) rfl
theorem km_X8_term : Cond.code eX8_term.1 eX8_term.2.1 eX8_term.2.2.1 eX8_term.2.2.2 ∈ jgw := jgw_of (jtb_6 (i := 162) rfl) rfl
theorem km_X8_part0 : Cond.code eX8_part0.1 eX8_part0.2.1 eX8_part0.2.2.1 eX8_part0.2.2.2 ∈ jgw := jgw_of (jtb_6 (i := 166) rfl) rfl
theorem km_X8_parse : Cond.code eX8_parse.1 eX8_parse.2.1 eX8_parse.2.2.1 eX8_parse.2.2.2 ∈ jgw := jgw_of (jtb_6 (i := 115) rfl) rfl
theorem km_X8_text : Cond.code eX8_text.1 eX8_text.2.1 eX8_text.2.2.1 eX8_text.2.2.2 ∈ jgw := jgw_of (jtb_6 (i := 110) rfl) rfl
theorem km_X8_of : Cond.code eX8_of.1 eX8_of.2.1 eX8_of.2.2.1 eX8_of.2.2.2 ∈ jgw := jgw_of (jtb_6 (i := 181) rfl) rfl
theorem km_X8_counts : Cond.code eX8_counts.1 eX8_counts.2.1 eX8_counts.2.2.1 eX8_counts.2.2.2 ∈ jgw := jgw_of (jtb_6 (i := 195) rfl) rfl
theorem km_X8_why : Cond.code eX8_why.1 eX8_why.2.1 eX8_why.2.2.1 eX8_why.2.2.2 ∈ jgw := jgw_of (jtb_6 (i := 190) rfl) rfl
theorem km_X8_joined : Cond.code eX8_joined.1 eX8_joined.2.1 eX8_joined.2.2.1 eX8_joined.2.2.2 ∈ jgw := jgw_of (jtb_6 (i := 210) rfl) rfl
theorem km_X8_worked : Cond.code eX8_worked.1 eX8_worked.2.1 eX8_worked.2.2.1 eX8_worked.2.2.2 ∈ jgw := jgw_of (jtb_6 (i := 207) rfl) rfl
theorem km_X8_nameAll : Cond.code eX8_nameAll.1 eX8_nameAll.2.1 eX8_nameAll.2.2.1 eX8_nameAll.2.2.2 ∈ jgw := jgw_of (jtb_6 (i := 203) rfl) rfl
theorem km_X8_gives : Cond.code eX8_gives.1 eX8_gives.2.1 eX8_gives.2.2.1 eX8_gives.2.2.2 ∈ jgw := jgw_of (jtb_6 (i := 199) rfl) rfl
theorem km_X8_habit : Cond.code eX8_habit.1 eX8_habit.2.1 eX8_habit.2.2.1 eX8_habit.2.2.2 ∈ jgw := jgw_of (jtb_6 (i := 214) rfl) rfl
theorem km_X8_findGround : Cond.code eX8_findGround.1 eX8_findGround.2.1 eX8_findGround.2.2.1 eX8_findGround.2.2.2 ∈ jgw := jgw_of (jtb_6 (i := 226) rfl) rfl
theorem km_X8_isSeenAt : Cond.code eX8_isSeenAt.1 eX8_isSeenAt.2.1 eX8_isSeenAt.2.2.1 eX8_isSeenAt.2.2.2 ∈ jgw := jgw_of (jtb_6 (i := 238) rfl) rfl
theorem km_X8_isKept : Cond.code eX8_isKept.1 eX8_isKept.2.1 eX8_isKept.2.2.1 eX8_isKept.2.2.2 ∈ jgw := jgw_of (jtb_6 (i := 234) rfl) rfl
theorem km_X8_findSeen : Cond.code eX8_findSeen.1 eX8_findSeen.2.1 eX8_findSeen.2.2.1 eX8_findSeen.2.2.2 ∈ jgw := jgw_of (jtb_6 (i := 230) rfl) rfl
theorem km_X8_see : Cond.code eX8_see.1 eX8_see.2.1 eX8_see.2.2.1 eX8_see.2.2.2 ∈ jgw := jgw_of (jtb_6 (i := 222) rfl) rfl
theorem km_X8_seen : Cond.code eX8_seen.1 eX8_seen.2.1 eX8_seen.2.2.1 eX8_seen.2.2.2 ∈ jgw := jgw_of (jtb_6 (i := 218) rfl) rfl
theorem km_X8_fill : Cond.code eX8_fill.1 eX8_fill.2.1 eX8_fill.2.2.1 eX8_fill.2.2.2 ∈ jgw := jgw_of (jtb_7 (i := 7) rfl) rfl
theorem km_X8_beast : Cond.code eX8_beast.1 eX8_beast.2.1 eX8_beast.2.2.1 eX8_beast.2.2.2 ∈ jgw := jgw_of (jtb_7 (i := 2) rfl) rfl
theorem km_X8_toldGroups : Cond.code eX8_toldGroups.1 eX8_toldGroups.2.1 eX8_toldGroups.2.2.1 eX8_toldGroups.2.2.2 ∈ jgw := jgw_of (jtb_7 (i := 14) rfl) rfl
theorem km_X8_missed : Cond.code eX8_missed.1 eX8_missed.2.1 eX8_missed.2.2.1 eX8_missed.2.2.2 ∈ jgw := jgw_of (jtb_7 (i := 27) rfl) rfl
theorem km_X8_leastBy : Cond.code eX8_leastBy.1 eX8_leastBy.2.1 eX8_leastBy.2.2.1 eX8_leastBy.2.2.2 ∈ jgw := jgw_of (jtb_7 (i := 19) rfl) rfl
theorem km_X8_search : Cond.code eX8_search.1 eX8_search.2.1 eX8_search.2.2.1 eX8_search.2.2.2 ∈ jgw := jgw_of (jtb_7 (i := 23) rfl) rfl
theorem km_X8_hide : Cond.code eX8_hide.1 eX8_hide.2.1 eX8_hide.2.2.1 eX8_hide.2.2.2 ∈ jgw := jgw_of (jtb_7 (i := 11) rfl) rfl
theorem km_X8_misses : Cond.code eX8_misses.1 eX8_misses.2.1 eX8_misses.2.2.1 eX8_misses.2.2.2 ∈ jgw := jgw_of (jtb_7 (i := 31) rfl) rfl
theorem km_X8_half : Cond.code eX8_half.1 eX8_half.2.1 eX8_half.2.2.1 eX8_half.2.2.2 ∈ jgw := jgw_of (jtb_7 (i := 35) rfl) rfl
theorem km_X8_learn : Cond.code eX8_learn.1 eX8_learn.2.1 eX8_learn.2.2.1 eX8_learn.2.2.2 ∈ jgw := jgw_of (jtb_7 (i := 39) rfl) rfl
theorem km_X8_partsAll : Cond.code eX8_partsAll.1 eX8_partsAll.2.1 eX8_partsAll.2.2.1 eX8_partsAll.2.2.2 ∈ jgw := jgw_of (jtb_7 (i := 48) rfl) rfl
theorem km_X8_apart : Cond.code eX8_apart.1 eX8_apart.2.1 eX8_apart.2.2.1 eX8_apart.2.2.2 ∈ jgw := jgw_of (jtb_7 (i := 43) rfl) rfl
theorem km_X8_ones : Cond.code eX8_ones.1 eX8_ones.2.1 eX8_ones.2.2.1 eX8_ones.2.2.2 ∈ jgw := jgw_of (jtb_7 (i := 55) rfl) rfl
theorem km_X8_fewest : Cond.code eX8_fewest.1 eX8_fewest.2.1 eX8_fewest.2.2.1 eX8_fewest.2.2.2 ∈ jgw := jgw_of (jtb_7 (i := 52) rfl) rfl
theorem km_X8_watch : Cond.code eX8_watch.1 eX8_watch.2.1 eX8_watch.2.2.1 eX8_watch.2.2.2 ∈ jgw := jgw_of (jtb_7 (i := 59) rfl) rfl
theorem km_X8_rowsOf : Cond.code eX8_rowsOf.1 eX8_rowsOf.2.1 eX8_rowsOf.2.2.1 eX8_rowsOf.2.2.2 ∈ jgw := jgw_of (jtb_7 (i := 69) rfl) rfl
theorem km_X8_alike : Cond.code eX8_alike.1 eX8_alike.2.1 eX8_alike.2.2.1 eX8_alike.2.2.2 ∈ jgw := jgw_of (jtb_7 (i := 64) rfl) rfl
theorem km_X8_kindsOf : Cond.code eX8_kindsOf.1 eX8_kindsOf.2.1 eX8_kindsOf.2.2.1 eX8_kindsOf.2.2.2 ∈ jgw := jgw_of (jtb_7 (i := 77) rfl) rfl
theorem km_X8_kinds : Cond.code eX8_kinds.1 eX8_kinds.2.1 eX8_kinds.2.2.1 eX8_kinds.2.2.2 ∈ jgw := jgw_of (jtb_7 (i := 73) rfl) rfl
theorem km_X8_parts : Cond.code eX8_parts.1 eX8_parts.2.1 eX8_parts.2.2.1 eX8_parts.2.2.2 ∈ jgw := jgw_of (jtb_7 (i := 81) rfl) rfl
theorem km_X8_tell : Cond.code eX8_tell.1 eX8_tell.2.1 eX8_tell.2.2.1 eX8_tell.2.2.2 ∈ jgw := jgw_of (jtb_7 (i := 85) rfl) rfl
theorem km_X8_sizes : Cond.code eX8_sizes.1 eX8_sizes.2.1 eX8_sizes.2.2.1 eX8_sizes.2.2.2 ∈ jgw := jgw_of (jtb_7 (i := 94) rfl) rfl
theorem km_X8_check : Cond.code eX8_check.1 eX8_check.2.1 eX8_check.2.2.1 eX8_check.2.2.2 ∈ jgw := jgw_of (jtb_7 (i := 89) rfl) rfl
theorem km_X8_keep : Cond.code eX8_keep.1 eX8_keep.2.1 eX8_keep.2.2.1 eX8_keep.2.2.2 ∈ jgw := jgw_of (jtb_7 (i := 98) rfl) rfl
theorem km_X8_back : Cond.code eX8_back.1 eX8_back.2.1 eX8_back.2.2.1 eX8_back.2.2.2 ∈ jgw := jgw_of (jtb_7 (i := 102) rfl) rfl
theorem km_X8_partsOf : Cond.code eX8_partsOf.1 eX8_partsOf.2.1 eX8_partsOf.2.2.1 eX8_partsOf.2.2.2 ∈ jgw := jgw_of (jtb_7 (i := 110) rfl) rfl
theorem km_X8_lines : Cond.code eX8_lines.1 eX8_lines.2.1 eX8_lines.2.2.1 eX8_lines.2.2.2 ∈ jgw := jgw_of (jtb_7 (i := 114) rfl) rfl
theorem km_X8_count : Cond.code eX8_count.1 eX8_count.2.1 eX8_count.2.2.1 eX8_count.2.2.2 ∈ jgw := jgw_of (jtb_7 (i := 106) rfl) rfl
theorem km_J11_isValidCodePoint_9a6ad : Cond.code eJ11_isValidCodePoint_9a6ad.1 eJ11_isValidCodePoint_9a6ad.2.1 eJ11_isValidCodePoint_9a6ad.2.2.1 eJ11_isValidCodePoint_9a6ad.2.2.2 ∈ jgw := jgw_of (jtb_4 (i := 17) rfl) rfl
theorem km_J11_highSurrogate_5068e : Cond.code eJ11_highSurrogate_5068e.1 eJ11_highSurrogate_5068e.2.1 eJ11_highSurrogate_5068e.2.2.1 eJ11_highSurrogate_5068e.2.2.2 ∈ jgw := jgw_of (jtb_4 (i := 20) rfl) rfl
theorem km_J11_lowSurrogate_5068e : Cond.code eJ11_lowSurrogate_5068e.1 eJ11_lowSurrogate_5068e.2.1 eJ11_lowSurrogate_5068e.2.2.1 eJ11_lowSurrogate_5068e.2.2.2 ∈ jgw := jgw_of (jtb_4 (i := 24) rfl) rfl
theorem km_J6_bitCount_0f7a4 : Cond.code eJ6_bitCount_0f7a4.1 eJ6_bitCount_0f7a4.2.1 eJ6_bitCount_0f7a4.2.2.1 eJ6_bitCount_0f7a4.2.2.2 ∈ jgw := jgw_of (jtb_4 (i := 222) rfl) rfl
theorem km_J9_abs_0f7a4 : Cond.code eJ9_abs_0f7a4.1 eJ9_abs_0f7a4.2.1 eJ9_abs_0f7a4.2.2.1 eJ9_abs_0f7a4.2.2.2 ∈ jgw := jgw_of (jtb_3 (i := 7) rfl) rfl
theorem km_J9_max_7cf53 : Cond.code eJ9_max_7cf53.1 eJ9_max_7cf53.2.1 eJ9_max_7cf53.2.2.1 eJ9_max_7cf53.2.2.2 ∈ jgw := jgw_of (jtb_2 (i := 209) rfl) rfl
theorem km_J9_min_7cf53 : Cond.code eJ9_min_7cf53.1 eJ9_min_7cf53.2.1 eJ9_min_7cf53.2.2.1 eJ9_min_7cf53.2.2.2 ∈ jgw := jgw_of (jtb_2 (i := 147) rfl) rfl
theorem km_J0_length_8abf5 : Cond.code eJ0_length_8abf5.1 eJ0_length_8abf5.2.1 eJ0_length_8abf5.2.2.1 eJ0_length_8abf5.2.2.2 ∈ jgw := jgw_of (jtb_3 (i := 135) rfl) rfl
theorem km_J0_charAt_5068e : Cond.code eJ0_charAt_5068e.1 eJ0_charAt_5068e.2.1 eJ0_charAt_5068e.2.2.1 eJ0_charAt_5068e.2.2.2 ∈ jgw := jgw_of (jtb_3 (i := 145) rfl) rfl
theorem km_J0_indexOf_0f7a4 : Cond.code eJ0_indexOf_0f7a4.1 eJ0_indexOf_0f7a4.2.1 eJ0_indexOf_0f7a4.2.2.1 eJ0_indexOf_0f7a4.2.2.2 ∈ jgw := jgw_of (jtb_3 (i := 214) rfl) rfl
theorem km_J0_indexOf_7cf53 : Cond.code eJ0_indexOf_7cf53.1 eJ0_indexOf_7cf53.2.1 eJ0_indexOf_7cf53.2.2.1 eJ0_indexOf_7cf53.2.2.2 ∈ jgw := jgw_of (jtb_3 (i := 218) rfl) rfl
theorem km_J0_coder_7d493 : Cond.code eJ0_coder_7d493.1 eJ0_coder_7d493.2.1 eJ0_coder_7d493.2.2.1 eJ0_coder_7d493.2.2.2 ∈ jgw := jgw_of (jtb_3 (i := 139) rfl) rfl
theorem km_J0_isLatin1_aae02 : Cond.code eJ0_isLatin1_aae02.1 eJ0_isLatin1_aae02.2.1 eJ0_isLatin1_aae02.2.2.1 eJ0_isLatin1_aae02.2.2.2 ∈ jgw := jgw_of (jtb_3 (i := 149) rfl) rfl
theorem km_J0_checkIndex_df160 : Cond.code eJ0_checkIndex_df160.1 eJ0_checkIndex_df160.2.1 eJ0_checkIndex_df160.2.2.1 eJ0_checkIndex_df160.2.2.2 ∈ jgw := jgw_of (jtb_3 (i := 155) rfl) rfl
theorem km_J0_checkBoundsBeginEnd_23922 : Cond.code eJ0_checkBoundsBeginEnd_23922.1 eJ0_checkBoundsBeginEnd_23922.2.1 eJ0_checkBoundsBeginEnd_23922.2.2.1 eJ0_checkBoundsBeginEnd_23922.2.2.2 ∈ jgw := jgw_of (jtb_4 (i := 5) rfl) rfl
theorem km_J1_charAt_3b067 : Cond.code eJ1_charAt_3b067.1 eJ1_charAt_3b067.2.1 eJ1_charAt_3b067.2.2.1 eJ1_charAt_3b067.2.2.2 ∈ jgw := jgw_of (jtb_3 (i := 152) rfl) rfl
theorem km_J1_canEncode_9a6ad : Cond.code eJ1_canEncode_9a6ad.1 eJ1_canEncode_9a6ad.2.1 eJ1_canEncode_9a6ad.2.2.1 eJ1_canEncode_9a6ad.2.2.2 ∈ jgw := jgw_of (jtb_3 (i := 225) rfl) rfl
theorem km_J1_indexOf_4cfef : Cond.code eJ1_indexOf_4cfef.1 eJ1_indexOf_4cfef.2.1 eJ1_indexOf_4cfef.2.2.1 eJ1_indexOf_4cfef.2.2.2 ∈ jgw := jgw_of (jtb_3 (i := 222) rfl) rfl
theorem km_J1_indexOfChar_4cfef : Cond.code eJ1_indexOfChar_4cfef.1 eJ1_indexOfChar_4cfef.2.1 eJ1_indexOfChar_4cfef.2.2.1 eJ1_indexOfChar_4cfef.2.2.2 ∈ jgw := jgw_of (jtb_3 (i := 230) rfl) rfl
theorem km_J2_getChar_3b067 : Cond.code eJ2_getChar_3b067.1 eJ2_getChar_3b067.2.1 eJ2_getChar_3b067.2.2.1 eJ2_getChar_3b067.2.2.2 ∈ jgw := jgw_of (jtb_3 (i := 173) rfl) rfl
theorem km_J2_length_9d52b : Cond.code eJ2_length_9d52b.1 eJ2_length_9d52b.2.1 eJ2_length_9d52b.2.2.1 eJ2_length_9d52b.2.2.2 ∈ jgw := jgw_of (jtb_3 (i := 169) rfl) rfl
theorem km_J2_indexOf_4cfef : Cond.code eJ2_indexOf_4cfef.1 eJ2_indexOf_4cfef.2.1 eJ2_indexOf_4cfef.2.2.1 eJ2_indexOf_4cfef.2.2.2 ∈ jgw := jgw_of (jtb_3 (i := 233) rfl) rfl
theorem km_J2_indexOfChar_4cfef : Cond.code eJ2_indexOfChar_4cfef.1 eJ2_indexOfChar_4cfef.2.1 eJ2_indexOfChar_4cfef.2.2.1 eJ2_indexOfChar_4cfef.2.2.2 ∈ jgw := jgw_of (jtb_3 (i := 239) rfl) rfl
theorem km_J2_indexOfCharUnsafe_4cfef : Cond.code eJ2_indexOfCharUnsafe_4cfef.1 eJ2_indexOfCharUnsafe_4cfef.2.1 eJ2_indexOfCharUnsafe_4cfef.2.2.1 eJ2_indexOfCharUnsafe_4cfef.2.2.2 ∈ jgw := jgw_of (jtb_4 (i := 11) rfl) rfl
theorem km_J2_indexOfSupplementary_4cfef : Cond.code eJ2_indexOfSupplementary_4cfef.1 eJ2_indexOfSupplementary_4cfef.2.1 eJ2_indexOfSupplementary_4cfef.2.2.1 eJ2_indexOfSupplementary_4cfef.2.2.2 ∈ jgw := jgw_of (jtb_4 (i := 14) rfl) rfl
theorem km_J2_charAt_3b067 : Cond.code eJ2_charAt_3b067.1 eJ2_charAt_3b067.2.1 eJ2_charAt_3b067.2.2.1 eJ2_charAt_3b067.2.2.2 ∈ jgw := jgw_of (jtb_3 (i := 163) rfl) rfl
theorem km_J2_checkIndex_2214a : Cond.code eJ2_checkIndex_2214a.1 eJ2_checkIndex_2214a.2.1 eJ2_checkIndex_2214a.2.2.1 eJ2_checkIndex_2214a.2.2.2 ∈ jgw := jgw_of (jtb_3 (i := 166) rfl) rfl
theorem km_J2_checkBoundsBeginEnd_d044e : Cond.code eJ2_checkBoundsBeginEnd_d044e.1 eJ2_checkBoundsBeginEnd_d044e.2.1 eJ2_checkBoundsBeginEnd_d044e.2.2.1 eJ2_checkBoundsBeginEnd_d044e.2.2.2 ∈ jgw := jgw_of (jtb_4 (i := 2) rfl) rfl
theorem km_J3_checkIndex_8e157 : Cond.code eJ3_checkIndex_8e157.1 eJ3_checkIndex_8e157.2.1 eJ3_checkIndex_8e157.2.2.1 eJ3_checkIndex_8e157.2.2.2 ∈ jgw := jgw_of (jtb_3 (i := 160) rfl) rfl
theorem km_J3_checkFromToIndex_8c36e : Cond.code eJ3_checkFromToIndex_8c36e.1 eJ3_checkFromToIndex_8c36e.2.1 eJ3_checkFromToIndex_8c36e.2.2.1 eJ3_checkFromToIndex_8c36e.2.2.2 ∈ jgw := jgw_of (jtb_4 (i := 8) rfl) rfl
theorem ki_L : Cond.initialized RL ∈ jgw := jgw_of (jtb_1 (i := 0) rfl) rfl
theorem ki_X7 : Cond.initialized RX7 ∈ jgw := jgw_of (jtb_1 (i := 1) rfl) rfl
theorem ki_X4 : Cond.initialized RX4 ∈ jgw := jgw_of (jtb_1 (i := 2) rfl) rfl
theorem ki_X1 : Cond.initialized RX1 ∈ jgw := jgw_of (jtb_1 (i := 3) rfl) rfl
theorem ki_X5 : Cond.initialized RX5 ∈ jgw := jgw_of (jtb_1 (i := 4) rfl) rfl
theorem ki_X6 : Cond.initialized RX6 ∈ jgw := jgw_of (jtb_1 (i := 5) rfl) rfl
theorem ki_X0 : Cond.initialized RX0 ∈ jgw := jgw_of (jtb_1 (i := 6) rfl) rfl
theorem ki_X3 : Cond.initialized RX3 ∈ jgw := jgw_of (jtb_1 (i := 7) rfl) rfl
theorem ki_X2 : Cond.initialized RX2 ∈ jgw := jgw_of (jtb_1 (i := 8) rfl) rfl
theorem ki_X8 : Cond.initialized RX8 ∈ jgw := jgw_of (jtb_1 (i := 9) rfl) rfl
theorem ki_J9 : Cond.initialized RJ9 ∈ jgw := jgw_of (jtb_1 (i := 10) rfl) rfl
theorem ki_J10 : Cond.initialized RJ10 ∈ jgw := jgw_of (jtb_1 (i := 11) rfl) rfl
theorem ki_J0 : Cond.initialized RJ0 ∈ jgw := jgw_of (jtb_1 (i := 12) rfl) rfl
theorem ki_J1 : Cond.initialized RJ1 ∈ jgw := jgw_of (jtb_1 (i := 13) rfl) rfl
theorem ki_J3 : Cond.initialized RJ3 ∈ jgw := jgw_of (jtb_1 (i := 14) rfl) rfl
theorem ki_J2 : Cond.initialized RJ2 ∈ jgw := jgw_of (jtb_1 (i := 15) rfl) rfl
theorem ki_J11 : Cond.initialized RJ11 ∈ jgw := jgw_of (jtb_1 (i := 16) rfl) rfl
theorem ki_J6 : Cond.initialized RJ6 ∈ jgw := jgw_of (jtb_1 (i := 17) rfl) rfl
theorem kl_L_9 : jLkI RL 9 eX7_init 0 := ⟨⟨Or.inl (jgw_of (jtb_1 (i := 20) rfl) rfl), km_X7_init, ki_X7, ⟨by decide +kernel, by decide +kernel, by decide +kernel⟩, by decide +kernel⟩, jgw_of (jtb_1 (i := 21) rfl) rfl, rfl, rfl⟩
theorem kl_X7_9 : jLkI RX7 9 eX4_init 0 := ⟨⟨Or.inr ⟨"SkinShow", jnw_of (jtb_1 (i := 28) rfl) rfl⟩, km_X4_init, ki_X4, ⟨by decide +kernel, by decide +kernel, by decide +kernel⟩, by decide +kernel⟩, jgw_of (jtb_1 (i := 29) rfl) rfl, rfl, rfl⟩
theorem kl_X7_24 : jLkI RX7 24 eX1_init 0 := ⟨⟨Or.inr ⟨"SkinShow", jnw_of (jtb_1 (i := 114) rfl) rfl⟩, km_X1_init, ki_X1, ⟨by decide +kernel, by decide +kernel, by decide +kernel⟩, by decide +kernel⟩, jgw_of (jtb_1 (i := 115) rfl) rfl, rfl, rfl⟩
theorem kl_X7_31 : jLkI RX7 31 eX5_init 0 := ⟨⟨Or.inr ⟨"SkinShow", jnw_of (jtb_1 (i := 141) rfl) rfl⟩, km_X5_init, ki_X5, ⟨by decide +kernel, by decide +kernel, by decide +kernel⟩, by decide +kernel⟩, jgw_of (jtb_1 (i := 142) rfl) rfl, rfl, rfl⟩
theorem kl_X7_38 : jLkI RX7 38 eX6_init 0 := ⟨⟨Or.inr ⟨"SkinShow", jnw_of (jtb_1 (i := 197) rfl) rfl⟩, km_X6_init, ki_X6, ⟨by decide +kernel, by decide +kernel, by decide +kernel⟩, by decide +kernel⟩, jgw_of (jtb_1 (i := 198) rfl) rfl, rfl, rfl⟩
theorem kl_X7_45 : jLkI RX7 45 eX0_init 0 := ⟨⟨Or.inr ⟨"SkinShow", jnw_of (jtb_1 (i := 226) rfl) rfl⟩, km_X0_init, ki_X0, ⟨by decide +kernel, by decide +kernel, by decide +kernel⟩, by decide +kernel⟩, jgw_of (jtb_1 (i := 227) rfl) rfl, rfl, rfl⟩
theorem kl_X7_52 : jLkI RX7 52 eX3_init 0 := ⟨⟨Or.inr ⟨"SkinShow", jnw_of (jtb_2 (i := 27) rfl) rfl⟩, km_X3_init, ki_X3, ⟨by decide +kernel, by decide +kernel, by decide +kernel⟩, by decide +kernel⟩, jgw_of (jtb_2 (i := 28) rfl) rfl, rfl, rfl⟩
theorem kl_X3_13 : jLkI RX3 13 eX4_init 0 := ⟨⟨Or.inr ⟨"SkinShow", jnw_of (jtb_2 (i := 32) rfl) rfl⟩, km_X4_init, ki_X4, ⟨by decide +kernel, by decide +kernel, by decide +kernel⟩, by decide +kernel⟩, jgw_of (jtb_1 (i := 29) rfl) rfl, rfl, rfl⟩
theorem kl_X3_20 : jLkI RX3 20 eX0_init 0 := ⟨⟨Or.inr ⟨"SkinShow", jnw_of (jtb_2 (i := 34) rfl) rfl⟩, km_X0_init, ki_X0, ⟨by decide +kernel, by decide +kernel, by decide +kernel⟩, by decide +kernel⟩, jgw_of (jtb_1 (i := 227) rfl) rfl, rfl, rfl⟩
theorem kl_X7_59 : jLkI RX7 59 eX2_init 0 := ⟨⟨Or.inr ⟨"SkinShow", jnw_of (jtb_2 (i := 64) rfl) rfl⟩, km_X2_init, ki_X2, ⟨by decide +kernel, by decide +kernel, by decide +kernel⟩, by decide +kernel⟩, jgw_of (jtb_2 (i := 65) rfl) rfl, rfl, rfl⟩
theorem kl_L_13 : jLkV RL 13 eX7_part 5 := ⟨⟨Or.inl (jgw_of (jtb_2 (i := 122) rfl) rfl), km_X7_part, ki_X7, ⟨by decide +kernel, by decide +kernel, by decide +kernel⟩, by decide +kernel⟩, jgw_of (jtb_2 (i := 123) rfl) rfl, jgw_of (jtb_2 (i := 124) rfl) rfl⟩
theorem kl_X7_76 : jLkS RX7 76 eX7_within 3 := ⟨⟨Or.inl (jgw_of (jtb_2 (i := 126) rfl) rfl), km_X7_within, ki_X7, ⟨by decide +kernel, by decide +kernel, by decide +kernel⟩, by decide +kernel⟩, jgw_of (jtb_2 (i := 127) rfl) rfl⟩
theorem kl_X7_90 : jLkV RX7 90 eX4_add 5 := ⟨⟨Or.inr ⟨"SkinShow", jnw_of (jtb_2 (i := 133) rfl) rfl⟩, km_X4_add, ki_X4, ⟨by decide +kernel, by decide +kernel, by decide +kernel⟩, by decide +kernel⟩, jgw_of (jtb_2 (i := 135) rfl) rfl, jgw_s (i := 0) (n := 17) (by decide +kernel)⟩
theorem kl_L_18 : jLkV RL 18 eX7_told 2 := ⟨⟨Or.inl (jgw_of (jtb_2 (i := 137) rfl) rfl), km_X7_told, ki_X7, ⟨by decide +kernel, by decide +kernel, by decide +kernel⟩, by decide +kernel⟩, jgw_of (jtb_2 (i := 138) rfl) rfl, jgw_of (jtb_2 (i := 139) rfl) rfl⟩
theorem kl_X7_112 : jLkV RX7 112 eX4_aimOf 1 := ⟨⟨Or.inr ⟨"SkinShow", jnw_of (jtb_2 (i := 141) rfl) rfl⟩, km_X4_aimOf, ki_X4, ⟨by decide +kernel, by decide +kernel, by decide +kernel⟩, by decide +kernel⟩, jgw_of (jtb_2 (i := 143) rfl) rfl, jgw_s (i := 1) (n := 17) (by decide +kernel)⟩
theorem kl_X4_77 : jLkS RX4 77 eJ9_min_7cf53 2 := ⟨⟨Or.inl (jgw_of (jtb_2 (i := 145) rfl) rfl), km_J9_min_7cf53, ki_J9, ⟨by decide +kernel, by decide +kernel, by decide +kernel⟩, by decide +kernel⟩, jgw_of (jtb_2 (i := 146) rfl) rfl⟩
theorem kl_X7_116 : jLkV RX7 116 eX4_paceOf 1 := ⟨⟨Or.inr ⟨"SkinShow", jnw_of (jtb_2 (i := 148) rfl) rfl⟩, km_X4_paceOf, ki_X4, ⟨by decide +kernel, by decide +kernel, by decide +kernel⟩, by decide +kernel⟩, jgw_of (jtb_2 (i := 150) rfl) rfl, jgw_s (i := 2) (n := 17) (by decide +kernel)⟩
theorem kl_X7_119 : jLkV RX7 119 eX4_givenBy 1 := ⟨⟨Or.inr ⟨"SkinShow", jnw_of (jtb_2 (i := 152) rfl) rfl⟩, km_X4_givenBy, ki_X4, ⟨by decide +kernel, by decide +kernel, by decide +kernel⟩, by decide +kernel⟩, jgw_of (jtb_2 (i := 154) rfl) rfl, jgw_s (i := 3) (n := 17) (by decide +kernel)⟩
theorem kl_L_23 : jLkV RL 23 eX7_as 2 := ⟨⟨Or.inl (jgw_of (jtb_2 (i := 156) rfl) rfl), km_X7_as, ki_X7, ⟨by decide +kernel, by decide +kernel, by decide +kernel⟩, by decide +kernel⟩, jgw_of (jtb_2 (i := 157) rfl) rfl, jgw_of (jtb_2 (i := 158) rfl) rfl⟩
theorem kl_X7_122 : jLkV RX7 122 eX4_isOf 2 := ⟨⟨Or.inr ⟨"SkinShow", jnw_of (jtb_2 (i := 160) rfl) rfl⟩, km_X4_isOf, ki_X4, ⟨by decide +kernel, by decide +kernel, by decide +kernel⟩, by decide +kernel⟩, jgw_of (jtb_2 (i := 162) rfl) rfl, jgw_s (i := 4) (n := 17) (by decide +kernel)⟩
theorem kl_L_27 : jLkV RL 27 eX7_dies 1 := ⟨⟨Or.inl (jgw_of (jtb_2 (i := 167) rfl) rfl), km_X7_dies, ki_X7, ⟨by decide +kernel, by decide +kernel, by decide +kernel⟩, by decide +kernel⟩, jgw_of (jtb_2 (i := 168) rfl) rfl, jgw_of (jtb_2 (i := 169) rfl) rfl⟩
theorem kl_L_32 : jLkV RL 32 eX7_nerve 3 := ⟨⟨Or.inl (jgw_of (jtb_2 (i := 171) rfl) rfl), km_X7_nerve, ki_X7, ⟨by decide +kernel, by decide +kernel, by decide +kernel⟩, by decide +kernel⟩, jgw_of (jtb_2 (i := 172) rfl) rfl, jgw_of (jtb_2 (i := 173) rfl) rfl⟩
theorem kl_X7_130 : jLkS RX7 130 eX7_replaced 3 := ⟨⟨Or.inl (jgw_of (jtb_2 (i := 175) rfl) rfl), km_X7_replaced, ki_X7, ⟨by decide +kernel, by decide +kernel, by decide +kernel⟩, by decide +kernel⟩, jgw_of (jtb_2 (i := 176) rfl) rfl⟩
theorem kl_L_37 : jLkV RL 37 eX7_pull 2 := ⟨⟨Or.inl (jgw_of (jtb_2 (i := 178) rfl) rfl), km_X7_pull, ki_X7, ⟨by decide +kernel, by decide +kernel, by decide +kernel⟩, by decide +kernel⟩, jgw_of (jtb_2 (i := 179) rfl) rfl, jgw_of (jtb_2 (i := 180) rfl) rfl⟩
theorem kl_L_41 : jLkV RL 41 eX7_rule 2 := ⟨⟨Or.inl (jgw_of (jtb_2 (i := 182) rfl) rfl), km_X7_rule, ki_X7, ⟨by decide +kernel, by decide +kernel, by decide +kernel⟩, by decide +kernel⟩, jgw_of (jtb_2 (i := 183) rfl) rfl, jgw_of (jtb_2 (i := 184) rfl) rfl⟩
theorem kl_L_45 : jLkV RL 45 eX7_show 2 := ⟨⟨Or.inl (jgw_of (jtb_2 (i := 190) rfl) rfl), km_X7_show, ki_X7, ⟨by decide +kernel, by decide +kernel, by decide +kernel⟩, by decide +kernel⟩, jgw_of (jtb_2 (i := 191) rfl) rfl, jgw_of (jtb_2 (i := 192) rfl) rfl⟩
theorem kl_X7_149 : jLkV RX7 149 eX4_lightAt 1 := ⟨⟨Or.inr ⟨"SkinShow", jnw_of (jtb_2 (i := 194) rfl) rfl⟩, km_X4_lightAt, ki_X4, ⟨by decide +kernel, by decide +kernel, by decide +kernel⟩, by decide +kernel⟩, jgw_of (jtb_2 (i := 196) rfl) rfl, jgw_s (i := 5) (n := 17) (by decide +kernel)⟩
theorem kl_X4_83 : jLkV RX4 83 eX4_heightAt 1 := ⟨⟨Or.inl (jgw_of (jtb_2 (i := 198) rfl) rfl), km_X4_heightAt, ki_X4, ⟨by decide +kernel, by decide +kernel, by decide +kernel⟩, by decide +kernel⟩, jgw_of (jtb_2 (i := 200) rfl) rfl, jgw_s (i := 6) (n := 17) (by decide +kernel)⟩
theorem kl_X4_87 : jLkV RX4 87 eX4_givenBy 1 := ⟨⟨Or.inl (jgw_of (jtb_2 (i := 202) rfl) rfl), km_X4_givenBy, ki_X4, ⟨by decide +kernel, by decide +kernel, by decide +kernel⟩, by decide +kernel⟩, jgw_of (jtb_2 (i := 154) rfl) rfl, jgw_s (i := 3) (n := 17) (by decide +kernel)⟩
theorem kl_X4_90 : jLkS RX4 90 eX7_held 2 := ⟨⟨Or.inr ⟨"SkinShow", jnw_of (jtb_2 (i := 203) rfl) rfl⟩, km_X7_held, ki_X7, ⟨by decide +kernel, by decide +kernel, by decide +kernel⟩, by decide +kernel⟩, jgw_of (jtb_2 (i := 204) rfl) rfl⟩
theorem kl_X7_355 : jLkS RX7 355 eJ9_min_7cf53 2 := ⟨⟨Or.inl (jgw_of (jtb_2 (i := 206) rfl) rfl), km_J9_min_7cf53, ki_J9, ⟨by decide +kernel, by decide +kernel, by decide +kernel⟩, by decide +kernel⟩, jgw_of (jtb_2 (i := 146) rfl) rfl⟩
theorem kl_X7_183 : jLkS RX7 183 eJ9_max_7cf53 2 := ⟨⟨Or.inl (jgw_of (jtb_2 (i := 207) rfl) rfl), km_J9_max_7cf53, ki_J9, ⟨by decide +kernel, by decide +kernel, by decide +kernel⟩, by decide +kernel⟩, jgw_of (jtb_2 (i := 208) rfl) rfl⟩
theorem kl_X7_155 : jLkV RX7 155 eX4_heightAt 1 := ⟨⟨Or.inr ⟨"SkinShow", jnw_of (jtb_2 (i := 210) rfl) rfl⟩, km_X4_heightAt, ki_X4, ⟨by decide +kernel, by decide +kernel, by decide +kernel⟩, by decide +kernel⟩, jgw_of (jtb_2 (i := 200) rfl) rfl, jgw_s (i := 6) (n := 17) (by decide +kernel)⟩
theorem kl_L_49 : jLkV RL 49 eX7_tick 1 := ⟨⟨Or.inl (jgw_of (jtb_2 (i := 211) rfl) rfl), km_X7_tick, ki_X7, ⟨by decide +kernel, by decide +kernel, by decide +kernel⟩, by decide +kernel⟩, jgw_of (jtb_2 (i := 212) rfl) rfl, jgw_of (jtb_2 (i := 213) rfl) rfl⟩
theorem kl_X7_161 : jLkV RX7 161 eX4_goOn 0 := ⟨⟨Or.inr ⟨"SkinShow", jnw_of (jtb_2 (i := 215) rfl) rfl⟩, km_X4_goOn, ki_X4, ⟨by decide +kernel, by decide +kernel, by decide +kernel⟩, by decide +kernel⟩, jgw_of (jtb_2 (i := 217) rfl) rfl, jgw_s (i := 7) (n := 17) (by decide +kernel)⟩
theorem kl_X4_96 : jLkV RX4 96 eX4_markWas 0 := ⟨⟨Or.inl (jgw_of (jtb_2 (i := 219) rfl) rfl), km_X4_markWas, ki_X4, ⟨by decide +kernel, by decide +kernel, by decide +kernel⟩, by decide +kernel⟩, jgw_of (jtb_2 (i := 221) rfl) rfl, jgw_s (i := 8) (n := 17) (by decide +kernel)⟩
theorem kl_X4_93 : jLkV RX4 93 eX4_lightAt 1 := ⟨⟨Or.inl (jgw_of (jtb_2 (i := 223) rfl) rfl), km_X4_lightAt, ki_X4, ⟨by decide +kernel, by decide +kernel, by decide +kernel⟩, by decide +kernel⟩, jgw_of (jtb_2 (i := 196) rfl) rfl, jgw_s (i := 5) (n := 17) (by decide +kernel)⟩
theorem kl_X4_99 : jLkV RX4 99 eX4_paceOf 1 := ⟨⟨Or.inl (jgw_of (jtb_2 (i := 224) rfl) rfl), km_X4_paceOf, ki_X4, ⟨by decide +kernel, by decide +kernel, by decide +kernel⟩, by decide +kernel⟩, jgw_of (jtb_2 (i := 150) rfl) rfl, jgw_s (i := 2) (n := 17) (by decide +kernel)⟩
theorem kl_X4_102 : jLkV RX4 102 eX4_aimOf 1 := ⟨⟨Or.inl (jgw_of (jtb_2 (i := 225) rfl) rfl), km_X4_aimOf, ki_X4, ⟨by decide +kernel, by decide +kernel, by decide +kernel⟩, by decide +kernel⟩, jgw_of (jtb_2 (i := 143) rfl) rfl, jgw_s (i := 1) (n := 17) (by decide +kernel)⟩
theorem kl_X4_105 : jLkS RX4 105 eJ9_max_7cf53 2 := ⟨⟨Or.inl (jgw_of (jtb_2 (i := 226) rfl) rfl), km_J9_max_7cf53, ki_J9, ⟨by decide +kernel, by decide +kernel, by decide +kernel⟩, by decide +kernel⟩, jgw_of (jtb_2 (i := 208) rfl) rfl⟩
theorem kl_L_53 : jLkV RL 53 eX7_rest 0 := ⟨⟨Or.inl (jgw_of (jtb_2 (i := 227) rfl) rfl), km_X7_rest, ki_X7, ⟨by decide +kernel, by decide +kernel, by decide +kernel⟩, by decide +kernel⟩, jgw_of (jtb_2 (i := 228) rfl) rfl, jgw_of (jtb_2 (i := 229) rfl) rfl⟩
theorem kl_X7_164 : jLkV RX7 164 eX4_settle 0 := ⟨⟨Or.inr ⟨"SkinShow", jnw_of (jtb_2 (i := 231) rfl) rfl⟩, km_X4_settle, ki_X4, ⟨by decide +kernel, by decide +kernel, by decide +kernel⟩, by decide +kernel⟩, jgw_of (jtb_2 (i := 233) rfl) rfl, jgw_s (i := 9) (n := 17) (by decide +kernel)⟩
theorem kl_X4_108 : jLkS RX4 108 eX7_replaced 3 := ⟨⟨Or.inr ⟨"SkinShow", jnw_of (jtb_2 (i := 235) rfl) rfl⟩, km_X7_replaced, ki_X7, ⟨by decide +kernel, by decide +kernel, by decide +kernel⟩, by decide +kernel⟩, jgw_of (jtb_2 (i := 176) rfl) rfl⟩
theorem kl_X7_168 : jLkV RX7 168 eX4_markWas 0 := ⟨⟨Or.inr ⟨"SkinShow", jnw_of (jtb_2 (i := 236) rfl) rfl⟩, km_X4_markWas, ki_X4, ⟨by decide +kernel, by decide +kernel, by decide +kernel⟩, by decide +kernel⟩, jgw_of (jtb_2 (i := 221) rfl) rfl, jgw_s (i := 8) (n := 17) (by decide +kernel)⟩
theorem kl_L_58 : jLkV RL 58 eX7_still 0 := ⟨⟨Or.inl (jgw_of (jtb_2 (i := 237) rfl) rfl), km_X7_still, ki_X7, ⟨by decide +kernel, by decide +kernel, by decide +kernel⟩, by decide +kernel⟩, jgw_of (jtb_2 (i := 238) rfl) rfl, jgw_of (jtb_2 (i := 239) rfl) rfl⟩
theorem kl_X7_171 : jLkV RX7 171 eX4_ticksToRest 0 := ⟨⟨Or.inr ⟨"SkinShow", jnw_of (jtb_3 (i := 1) rfl) rfl⟩, km_X4_ticksToRest, ki_X4, ⟨by decide +kernel, by decide +kernel, by decide +kernel⟩, by decide +kernel⟩, jgw_of (jtb_3 (i := 3) rfl) rfl, jgw_s (i := 10) (n := 17) (by decide +kernel)⟩
theorem kl_X4_112 : jLkS RX4 112 eJ9_abs_0f7a4 1 := ⟨⟨Or.inl (jgw_of (jtb_3 (i := 5) rfl) rfl), km_J9_abs_0f7a4, ki_J9, ⟨by decide +kernel, by decide +kernel, by decide +kernel⟩, by decide +kernel⟩, jgw_of (jtb_3 (i := 6) rfl) rfl⟩
theorem kl_L_62 : jLkV RL 62 eX7_change 0 := ⟨⟨Or.inl (jgw_of (jtb_3 (i := 8) rfl) rfl), km_X7_change, ki_X7, ⟨by decide +kernel, by decide +kernel, by decide +kernel⟩, by decide +kernel⟩, jgw_of (jtb_3 (i := 9) rfl) rfl, jgw_of (jtb_3 (i := 10) rfl) rfl⟩
theorem kl_X7_174 : jLkV RX7 174 eX4_becomes 1 := ⟨⟨Or.inr ⟨"SkinShow", jnw_of (jtb_3 (i := 12) rfl) rfl⟩, km_X4_becomes, ki_X4, ⟨by decide +kernel, by decide +kernel, by decide +kernel⟩, by decide +kernel⟩, jgw_of (jtb_3 (i := 14) rfl) rfl, jgw_s (i := 11) (n := 17) (by decide +kernel)⟩
theorem kl_X7_178 : jLkS RX7 178 eJ9_abs_0f7a4 1 := ⟨⟨Or.inl (jgw_of (jtb_3 (i := 19) rfl) rfl), km_J9_abs_0f7a4, ki_J9, ⟨by decide +kernel, by decide +kernel, by decide +kernel⟩, by decide +kernel⟩, jgw_of (jtb_3 (i := 6) rfl) rfl⟩
theorem kl_L_66 : jLkV RL 66 eX7_line 3 := ⟨⟨Or.inl (jgw_of (jtb_3 (i := 20) rfl) rfl), km_X7_line, ki_X7, ⟨by decide +kernel, by decide +kernel, by decide +kernel⟩, by decide +kernel⟩, jgw_of (jtb_3 (i := 21) rfl) rfl, jgw_of (jtb_3 (i := 22) rfl) rfl⟩
theorem kl_X7_187 : jLkV RX7 187 eX1_make 3 := ⟨⟨Or.inr ⟨"SkinShow", jnw_of (jtb_3 (i := 24) rfl) rfl⟩, km_X1_make, ki_X1, ⟨by decide +kernel, by decide +kernel, by decide +kernel⟩, by decide +kernel⟩, jgw_of (jtb_3 (i := 26) rfl) rfl, jgw_s (i := 12) (n := 5) (by decide +kernel)⟩
theorem kl_L_70 : jLkV RL 70 eX7_put 3 := ⟨⟨Or.inl (jgw_of (jtb_3 (i := 29) rfl) rfl), km_X7_put, ki_X7, ⟨by decide +kernel, by decide +kernel, by decide +kernel⟩, by decide +kernel⟩, jgw_of (jtb_3 (i := 30) rfl) rfl, jgw_of (jtb_3 (i := 31) rfl) rfl⟩
theorem kl_L_74 : jLkV RL 74 eX7_copy 5 := ⟨⟨Or.inl (jgw_of (jtb_3 (i := 35) rfl) rfl), km_X7_copy, ki_X7, ⟨by decide +kernel, by decide +kernel, by decide +kernel⟩, by decide +kernel⟩, jgw_of (jtb_3 (i := 36) rfl) rfl, jgw_of (jtb_3 (i := 37) rfl) rfl⟩
theorem kl_X7_204 : jLkV RX7 204 eX1_has 3 := ⟨⟨Or.inr ⟨"SkinShow", jnw_of (jtb_3 (i := 39) rfl) rfl⟩, km_X1_has, ki_X1, ⟨by decide +kernel, by decide +kernel, by decide +kernel⟩, by decide +kernel⟩, jgw_of (jtb_3 (i := 41) rfl) rfl, jgw_s (i := 13) (n := 5) (by decide +kernel)⟩
theorem kl_L_78 : jLkV RL 78 eX7_ground 2 := ⟨⟨Or.inl (jgw_of (jtb_3 (i := 44) rfl) rfl), km_X7_ground, ki_X7, ⟨by decide +kernel, by decide +kernel, by decide +kernel⟩, by decide +kernel⟩, jgw_of (jtb_3 (i := 45) rfl) rfl, jgw_of (jtb_3 (i := 46) rfl) rfl⟩
theorem kl_X7_213 : jLkS RX7 213 eX7_isGround 1 := ⟨⟨Or.inl (jgw_of (jtb_3 (i := 48) rfl) rfl), km_X7_isGround, ki_X7, ⟨by decide +kernel, by decide +kernel, by decide +kernel⟩, by decide +kernel⟩, jgw_of (jtb_3 (i := 49) rfl) rfl⟩
theorem kl_X7_217 : jLkV RX7 217 eX1_shadeAt 2 := ⟨⟨Or.inr ⟨"SkinShow", jnw_of (jtb_3 (i := 51) rfl) rfl⟩, km_X1_shadeAt, ki_X1, ⟨by decide +kernel, by decide +kernel, by decide +kernel⟩, by decide +kernel⟩, jgw_of (jtb_3 (i := 53) rfl) rfl, jgw_s (i := 14) (n := 5) (by decide +kernel)⟩
theorem kl_X1_29 : jLkS RX1 29 eX7_held 2 := ⟨⟨Or.inr ⟨"SkinShow", jnw_of (jtb_3 (i := 55) rfl) rfl⟩, km_X7_held, ki_X7, ⟨by decide +kernel, by decide +kernel, by decide +kernel⟩, by decide +kernel⟩, jgw_of (jtb_2 (i := 204) rfl) rfl⟩
theorem kl_L_82 : jLkV RL 82 eX7_ask 2 := ⟨⟨Or.inl (jgw_of (jtb_3 (i := 56) rfl) rfl), km_X7_ask, ki_X7, ⟨by decide +kernel, by decide +kernel, by decide +kernel⟩, by decide +kernel⟩, jgw_of (jtb_3 (i := 57) rfl) rfl, jgw_of (jtb_3 (i := 58) rfl) rfl⟩
theorem kl_X7_220 : jLkV RX7 220 eX1_askAll 2 := ⟨⟨Or.inr ⟨"SkinShow", jnw_of (jtb_3 (i := 60) rfl) rfl⟩, km_X1_askAll, ki_X1, ⟨by decide +kernel, by decide +kernel, by decide +kernel⟩, by decide +kernel⟩, jgw_of (jtb_3 (i := 62) rfl) rfl, jgw_s (i := 15) (n := 5) (by decide +kernel)⟩
theorem kl_X1_33 : jLkV RX1 33 eX1_shadeAt 2 := ⟨⟨Or.inl (jgw_of (jtb_3 (i := 64) rfl) rfl), km_X1_shadeAt, ki_X1, ⟨by decide +kernel, by decide +kernel, by decide +kernel⟩, by decide +kernel⟩, jgw_of (jtb_3 (i := 53) rfl) rfl, jgw_s (i := 14) (n := 5) (by decide +kernel)⟩
theorem kl_X1_36 : jLkV RX1 36 eX1_mean 0 := ⟨⟨Or.inl (jgw_of (jtb_3 (i := 65) rfl) rfl), km_X1_mean, ki_X1, ⟨by decide +kernel, by decide +kernel, by decide +kernel⟩, by decide +kernel⟩, jgw_of (jtb_3 (i := 67) rfl) rfl, jgw_s (i := 16) (n := 5) (by decide +kernel)⟩
theorem kl_X1_40 : jLkV RX1 40 eX1_allDifferences 0 := ⟨⟨Or.inl (jgw_of (jtb_3 (i := 69) rfl) rfl), km_X1_allDifferences, ki_X1, ⟨by decide +kernel, by decide +kernel, by decide +kernel⟩, by decide +kernel⟩, jgw_of (jtb_3 (i := 71) rfl) rfl, jgw_s (i := 17) (n := 5) (by decide +kernel)⟩
theorem kl_X1_59 : jLkV RX1 59 eX1_difference 2 := ⟨⟨Or.inl (jgw_of (jtb_3 (i := 73) rfl) rfl), km_X1_difference, ki_X1, ⟨by decide +kernel, by decide +kernel, by decide +kernel⟩, by decide +kernel⟩, jgw_of (jtb_3 (i := 75) rfl) rfl, jgw_s (i := 18) (n := 5) (by decide +kernel)⟩
theorem kl_X1_50 : jLkS RX1 50 eX7_beside 2 := ⟨⟨Or.inr ⟨"SkinShow", jnw_of (jtb_3 (i := 77) rfl) rfl⟩, km_X7_beside, ki_X7, ⟨by decide +kernel, by decide +kernel, by decide +kernel⟩, by decide +kernel⟩, jgw_of (jtb_3 (i := 78) rfl) rfl⟩
theorem kl_X1_54 : jLkS RX1 54 eJ9_abs_0f7a4 1 := ⟨⟨Or.inl (jgw_of (jtb_3 (i := 81) rfl) rfl), km_J9_abs_0f7a4, ki_J9, ⟨by decide +kernel, by decide +kernel, by decide +kernel⟩, by decide +kernel⟩, jgw_of (jtb_3 (i := 6) rfl) rfl⟩
theorem kl_X1_43 : jLkV RX1 43 eX1_allEdges 1 := ⟨⟨Or.inl (jgw_of (jtb_3 (i := 82) rfl) rfl), km_X1_allEdges, ki_X1, ⟨by decide +kernel, by decide +kernel, by decide +kernel⟩, by decide +kernel⟩, jgw_of (jtb_3 (i := 84) rfl) rfl, jgw_s (i := 19) (n := 5) (by decide +kernel)⟩
theorem kl_X1_47 : jLkV RX1 47 eX1_brightOnes 1 := ⟨⟨Or.inl (jgw_of (jtb_3 (i := 86) rfl) rfl), km_X1_brightOnes, ki_X1, ⟨by decide +kernel, by decide +kernel, by decide +kernel⟩, by decide +kernel⟩, jgw_of (jtb_3 (i := 88) rfl) rfl, jgw_s (i := 20) (n := 5) (by decide +kernel)⟩
theorem kl_L_86 : jLkV RL 86 eX7_feed 3 := ⟨⟨Or.inl (jgw_of (jtb_3 (i := 90) rfl) rfl), km_X7_feed, ki_X7, ⟨by decide +kernel, by decide +kernel, by decide +kernel⟩, by decide +kernel⟩, jgw_of (jtb_3 (i := 91) rfl) rfl, jgw_of (jtb_3 (i := 92) rfl) rfl⟩
theorem kl_X7_226 : jLkV RX7 226 eX5_take 1 := ⟨⟨Or.inr ⟨"SkinShow", jnw_of (jtb_3 (i := 94) rfl) rfl⟩, km_X5_take, ki_X5, ⟨by decide +kernel, by decide +kernel, by decide +kernel⟩, by decide +kernel⟩, jgw_of (jtb_3 (i := 96) rfl) rfl, jgw_s (i := 21) (n := 14) (by decide +kernel)⟩
theorem kl_L_90 : jLkV RL 90 eX7_trim 1 := ⟨⟨Or.inl (jgw_of (jtb_3 (i := 98) rfl) rfl), km_X7_trim, ki_X7, ⟨by decide +kernel, by decide +kernel, by decide +kernel⟩, by decide +kernel⟩, jgw_of (jtb_3 (i := 99) rfl) rfl, jgw_of (jtb_3 (i := 100) rfl) rfl⟩
theorem kl_L_94 : jLkV RL 94 eX7_text 1 := ⟨⟨Or.inl (jgw_of (jtb_3 (i := 102) rfl) rfl), km_X7_text, ki_X7, ⟨by decide +kernel, by decide +kernel, by decide +kernel⟩, by decide +kernel⟩, jgw_of (jtb_3 (i := 103) rfl) rfl, jgw_of (jtb_3 (i := 104) rfl) rfl⟩
theorem kl_X7_230 : jLkV RX7 230 eX5_read 0 := ⟨⟨Or.inr ⟨"SkinShow", jnw_of (jtb_3 (i := 106) rfl) rfl⟩, km_X5_read, ki_X5, ⟨by decide +kernel, by decide +kernel, by decide +kernel⟩, by decide +kernel⟩, jgw_of (jtb_3 (i := 108) rfl) rfl, jgw_s (i := 22) (n := 14) (by decide +kernel)⟩
theorem kl_X5_60 : jLkV RX5 60 eX5_readHead 0 := ⟨⟨Or.inl (jgw_of (jtb_3 (i := 110) rfl) rfl), km_X5_readHead, ki_X5, ⟨by decide +kernel, by decide +kernel, by decide +kernel⟩, by decide +kernel⟩, jgw_of (jtb_3 (i := 112) rfl) rfl, jgw_s (i := 23) (n := 14) (by decide +kernel)⟩
theorem kl_X5_64 : jLkV RX5 64 eX5_step 0 := ⟨⟨Or.inl (jgw_of (jtb_3 (i := 114) rfl) rfl), km_X5_step, ki_X5, ⟨by decide +kernel, by decide +kernel, by decide +kernel⟩, by decide +kernel⟩, jgw_of (jtb_3 (i := 116) rfl) rfl, jgw_s (i := 24) (n := 14) (by decide +kernel)⟩
theorem kl_X5_80 : jLkS RX5 80 eJ9_min_7cf53 2 := ⟨⟨Or.inl (jgw_of (jtb_3 (i := 118) rfl) rfl), km_J9_min_7cf53, ki_J9, ⟨by decide +kernel, by decide +kernel, by decide +kernel⟩, by decide +kernel⟩, jgw_of (jtb_2 (i := 146) rfl) rfl⟩
theorem kl_X5_86 : jLkV RX5 86 eX5_isLetter 1 := ⟨⟨Or.inl (jgw_of (jtb_3 (i := 119) rfl) rfl), km_X5_isLetter, ki_X5, ⟨by decide +kernel, by decide +kernel, by decide +kernel⟩, by decide +kernel⟩, jgw_of (jtb_3 (i := 121) rfl) rfl, jgw_s (i := 25) (n := 14) (by decide +kernel)⟩
theorem kl_X5_90 : jLkV RX5 90 eX5_isDigit 1 := ⟨⟨Or.inl (jgw_of (jtb_3 (i := 123) rfl) rfl), km_X5_isDigit, ki_X5, ⟨by decide +kernel, by decide +kernel, by decide +kernel⟩, by decide +kernel⟩, jgw_of (jtb_3 (i := 125) rfl) rfl, jgw_s (i := 26) (n := 14) (by decide +kernel)⟩
theorem kl_X5_98 : jLkV RX5 98 eX5_spells 1 := ⟨⟨Or.inl (jgw_of (jtb_3 (i := 128) rfl) rfl), km_X5_spells, ki_X5, ⟨by decide +kernel, by decide +kernel, by decide +kernel⟩, by decide +kernel⟩, jgw_of (jtb_3 (i := 130) rfl) rfl, jgw_s (i := 27) (n := 14) (by decide +kernel)⟩
theorem kl_X5_108 : jLkV RX5 108 eJ0_length_8abf5 0 := ⟨⟨Or.inl (jgw_of (jtb_3 (i := 132) rfl) rfl), km_J0_length_8abf5, ki_J0, ⟨by decide +kernel, by decide +kernel, by decide +kernel⟩, by decide +kernel⟩, jgw_of (jtb_3 (i := 133) rfl) rfl, jgw_of (jtb_3 (i := 134) rfl) rfl⟩
theorem kl_J0_335 : jLkV RJ0 335 eJ0_coder_7d493 0 := ⟨⟨Or.inl (jgw_of (jtb_3 (i := 136) rfl) rfl), km_J0_coder_7d493, ki_J0, ⟨by decide +kernel, by decide +kernel, by decide +kernel⟩, by decide +kernel⟩, jgw_of (jtb_3 (i := 137) rfl) rfl, jgw_of (jtb_3 (i := 138) rfl) rfl⟩
theorem kl_X5_113 : jLkV RX5 113 eJ0_charAt_5068e 1 := ⟨⟨Or.inl (jgw_of (jtb_3 (i := 142) rfl) rfl), km_J0_charAt_5068e, ki_J0, ⟨by decide +kernel, by decide +kernel, by decide +kernel⟩, by decide +kernel⟩, jgw_of (jtb_3 (i := 143) rfl) rfl, jgw_of (jtb_3 (i := 144) rfl) rfl⟩
theorem kl_J0_492 : jLkV RJ0 492 eJ0_isLatin1_aae02 0 := ⟨⟨Or.inl (jgw_of (jtb_3 (i := 146) rfl) rfl), km_J0_isLatin1_aae02, ki_J0, ⟨by decide +kernel, by decide +kernel, by decide +kernel⟩, by decide +kernel⟩, jgw_of (jtb_3 (i := 147) rfl) rfl, jgw_of (jtb_3 (i := 148) rfl) rfl⟩
theorem kl_J0_495 : jLkS RJ0 495 eJ1_charAt_3b067 2 := ⟨⟨Or.inl (jgw_of (jtb_3 (i := 150) rfl) rfl), km_J1_charAt_3b067, ki_J1, ⟨by decide +kernel, by decide +kernel, by decide +kernel⟩, by decide +kernel⟩, jgw_of (jtb_3 (i := 151) rfl) rfl⟩
theorem kl_J1_9 : jLkS RJ1 9 eJ0_checkIndex_df160 2 := ⟨⟨Or.inl (jgw_of (jtb_3 (i := 153) rfl) rfl), km_J0_checkIndex_df160, ki_J0, ⟨by decide +kernel, by decide +kernel, by decide +kernel⟩, by decide +kernel⟩, jgw_of (jtb_3 (i := 154) rfl) rfl⟩
theorem kl_J0_1059 : jLkS RJ0 1059 eJ3_checkIndex_8e157 3 := ⟨⟨Or.inl (jgw_of (jtb_3 (i := 158) rfl) rfl), km_J3_checkIndex_8e157, ki_J3, ⟨by decide +kernel, by decide +kernel, by decide +kernel⟩, by decide +kernel⟩, jgw_of (jtb_3 (i := 159) rfl) rfl⟩
theorem kl_J0_498 : jLkS RJ0 498 eJ2_charAt_3b067 2 := ⟨⟨Or.inl (jgw_of (jtb_3 (i := 161) rfl) rfl), km_J2_charAt_3b067, ki_J2, ⟨by decide +kernel, by decide +kernel, by decide +kernel⟩, by decide +kernel⟩, jgw_of (jtb_3 (i := 162) rfl) rfl⟩
theorem kl_J2_67 : jLkS RJ2 67 eJ2_checkIndex_2214a 2 := ⟨⟨Or.inl (jgw_of (jtb_3 (i := 164) rfl) rfl), km_J2_checkIndex_2214a, ki_J2, ⟨by decide +kernel, by decide +kernel, by decide +kernel⟩, by decide +kernel⟩, jgw_of (jtb_3 (i := 165) rfl) rfl⟩
theorem kl_J2_48 : jLkS RJ2 48 eJ2_length_9d52b 1 := ⟨⟨Or.inl (jgw_of (jtb_3 (i := 167) rfl) rfl), km_J2_length_9d52b, ki_J2, ⟨by decide +kernel, by decide +kernel, by decide +kernel⟩, by decide +kernel⟩, jgw_of (jtb_3 (i := 168) rfl) rfl⟩
theorem kl_J2_414 : jLkS RJ2 414 eJ0_checkIndex_df160 2 := ⟨⟨Or.inl (jgw_of (jtb_3 (i := 170) rfl) rfl), km_J0_checkIndex_df160, ki_J0, ⟨by decide +kernel, by decide +kernel, by decide +kernel⟩, by decide +kernel⟩, jgw_of (jtb_3 (i := 154) rfl) rfl⟩
theorem kl_J2_71 : jLkS RJ2 71 eJ2_getChar_3b067 2 := ⟨⟨Or.inl (jgw_of (jtb_3 (i := 171) rfl) rfl), km_J2_getChar_3b067, ki_J2, ⟨by decide +kernel, by decide +kernel, by decide +kernel⟩, by decide +kernel⟩, jgw_of (jtb_3 (i := 172) rfl) rfl⟩
theorem kl_X5_67 : jLkV RX5 67 eX5_glued 0 := ⟨⟨Or.inl (jgw_of (jtb_3 (i := 183) rfl) rfl), km_X5_glued, ki_X5, ⟨by decide +kernel, by decide +kernel, by decide +kernel⟩, by decide +kernel⟩, jgw_of (jtb_3 (i := 185) rfl) rfl, jgw_s (i := 28) (n := 14) (by decide +kernel)⟩
theorem kl_X5_93 : jLkV RX5 93 eX5_isWord 1 := ⟨⟨Or.inl (jgw_of (jtb_3 (i := 187) rfl) rfl), km_X5_isWord, ki_X5, ⟨by decide +kernel, by decide +kernel, by decide +kernel⟩, by decide +kernel⟩, jgw_of (jtb_3 (i := 189) rfl) rfl, jgw_s (i := 29) (n := 14) (by decide +kernel)⟩
theorem kl_X5_70 : jLkV RX5 70 eX5_readPiece 0 := ⟨⟨Or.inl (jgw_of (jtb_3 (i := 191) rfl) rfl), km_X5_readPiece, ki_X5, ⟨by decide +kernel, by decide +kernel, by decide +kernel⟩, by decide +kernel⟩, jgw_of (jtb_3 (i := 193) rfl) rfl, jgw_s (i := 30) (n := 14) (by decide +kernel)⟩
theorem kl_X5_117 : jLkV RX5 117 eX5_number 0 := ⟨⟨Or.inl (jgw_of (jtb_3 (i := 195) rfl) rfl), km_X5_number, ki_X5, ⟨by decide +kernel, by decide +kernel, by decide +kernel⟩, by decide +kernel⟩, jgw_of (jtb_3 (i := 197) rfl) rfl, jgw_s (i := 31) (n := 14) (by decide +kernel)⟩
theorem kl_X5_120 : jLkV RX5 120 eX5_putOperand 1 := ⟨⟨Or.inl (jgw_of (jtb_3 (i := 199) rfl) rfl), km_X5_putOperand, ki_X5, ⟨by decide +kernel, by decide +kernel, by decide +kernel⟩, by decide +kernel⟩, jgw_of (jtb_3 (i := 201) rfl) rfl, jgw_s (i := 32) (n := 14) (by decide +kernel)⟩
theorem kl_X5_130 : jLkV RX5 130 eX5_putDown 1 := ⟨⟨Or.inl (jgw_of (jtb_3 (i := 203) rfl) rfl), km_X5_putDown, ki_X5, ⟨by decide +kernel, by decide +kernel, by decide +kernel⟩, by decide +kernel⟩, jgw_of (jtb_3 (i := 205) rfl) rfl, jgw_s (i := 33) (n := 14) (by decide +kernel)⟩
theorem kl_X5_133 : jLkV RX5 133 eX5_endPiece 0 := ⟨⟨Or.inl (jgw_of (jtb_3 (i := 207) rfl) rfl), km_X5_endPiece, ki_X5, ⟨by decide +kernel, by decide +kernel, by decide +kernel⟩, by decide +kernel⟩, jgw_of (jtb_3 (i := 209) rfl) rfl, jgw_s (i := 34) (n := 14) (by decide +kernel)⟩
theorem kl_X5_123 : jLkV RX5 123 eJ0_indexOf_0f7a4 1 := ⟨⟨Or.inl (jgw_of (jtb_3 (i := 211) rfl) rfl), km_J0_indexOf_0f7a4, ki_J0, ⟨by decide +kernel, by decide +kernel, by decide +kernel⟩, by decide +kernel⟩, jgw_of (jtb_3 (i := 212) rfl) rfl, jgw_of (jtb_3 (i := 213) rfl) rfl⟩
theorem kl_J0_633 : jLkV RJ0 633 eJ0_indexOf_7cf53 2 := ⟨⟨Or.inl (jgw_of (jtb_3 (i := 215) rfl) rfl), km_J0_indexOf_7cf53, ki_J0, ⟨by decide +kernel, by decide +kernel, by decide +kernel⟩, by decide +kernel⟩, jgw_of (jtb_3 (i := 216) rfl) rfl, jgw_of (jtb_3 (i := 217) rfl) rfl⟩
theorem kl_J0_505 : jLkV RJ0 505 eJ0_length_8abf5 0 := ⟨⟨Or.inl (jgw_of (jtb_3 (i := 219) rfl) rfl), km_J0_length_8abf5, ki_J0, ⟨by decide +kernel, by decide +kernel, by decide +kernel⟩, by decide +kernel⟩, jgw_of (jtb_3 (i := 133) rfl) rfl, jgw_of (jtb_3 (i := 134) rfl) rfl⟩
theorem kl_J0_637 : jLkS RJ0 637 eJ1_indexOf_4cfef 4 := ⟨⟨Or.inl (jgw_of (jtb_3 (i := 220) rfl) rfl), km_J1_indexOf_4cfef, ki_J1, ⟨by decide +kernel, by decide +kernel, by decide +kernel⟩, by decide +kernel⟩, jgw_of (jtb_3 (i := 221) rfl) rfl⟩
theorem kl_J1_88 : jLkS RJ1 88 eJ1_canEncode_9a6ad 1 := ⟨⟨Or.inl (jgw_of (jtb_3 (i := 223) rfl) rfl), km_J1_canEncode_9a6ad, ki_J1, ⟨by decide +kernel, by decide +kernel, by decide +kernel⟩, by decide +kernel⟩, jgw_of (jtb_3 (i := 224) rfl) rfl⟩
theorem kl_J1_92 : jLkS RJ1 92 eJ9_max_7cf53 2 := ⟨⟨Or.inl (jgw_of (jtb_3 (i := 226) rfl) rfl), km_J9_max_7cf53, ki_J9, ⟨by decide +kernel, by decide +kernel, by decide +kernel⟩, by decide +kernel⟩, jgw_of (jtb_2 (i := 208) rfl) rfl⟩
theorem kl_J1_38 : jLkS RJ1 38 eJ9_min_7cf53 2 := ⟨⟨Or.inl (jgw_of (jtb_3 (i := 227) rfl) rfl), km_J9_min_7cf53, ki_J9, ⟨by decide +kernel, by decide +kernel, by decide +kernel⟩, by decide +kernel⟩, jgw_of (jtb_2 (i := 146) rfl) rfl⟩
theorem kl_J1_95 : jLkS RJ1 95 eJ1_indexOfChar_4cfef 4 := ⟨⟨Or.inl (jgw_of (jtb_3 (i := 228) rfl) rfl), km_J1_indexOfChar_4cfef, ki_J1, ⟨by decide +kernel, by decide +kernel, by decide +kernel⟩, by decide +kernel⟩, jgw_of (jtb_3 (i := 229) rfl) rfl⟩
theorem kl_J0_640 : jLkS RJ0 640 eJ2_indexOf_4cfef 4 := ⟨⟨Or.inl (jgw_of (jtb_3 (i := 231) rfl) rfl), km_J2_indexOf_4cfef, ki_J2, ⟨by decide +kernel, by decide +kernel, by decide +kernel⟩, by decide +kernel⟩, jgw_of (jtb_3 (i := 232) rfl) rfl⟩
theorem kl_J2_224 : jLkS RJ2 224 eJ9_max_7cf53 2 := ⟨⟨Or.inl (jgw_of (jtb_3 (i := 234) rfl) rfl), km_J9_max_7cf53, ki_J9, ⟨by decide +kernel, by decide +kernel, by decide +kernel⟩, by decide +kernel⟩, jgw_of (jtb_2 (i := 208) rfl) rfl⟩
theorem kl_J2_183 : jLkS RJ2 183 eJ9_min_7cf53 2 := ⟨⟨Or.inl (jgw_of (jtb_3 (i := 235) rfl) rfl), km_J9_min_7cf53, ki_J9, ⟨by decide +kernel, by decide +kernel, by decide +kernel⟩, by decide +kernel⟩, jgw_of (jtb_2 (i := 146) rfl) rfl⟩
theorem kl_J2_228 : jLkS RJ2 228 eJ2_indexOfChar_4cfef 4 := ⟨⟨Or.inl (jgw_of (jtb_3 (i := 237) rfl) rfl), km_J2_indexOfChar_4cfef, ki_J2, ⟨by decide +kernel, by decide +kernel, by decide +kernel⟩, by decide +kernel⟩, jgw_of (jtb_3 (i := 238) rfl) rfl⟩
theorem kl_J2_96 : jLkS RJ2 96 eJ2_checkBoundsBeginEnd_d044e 3 := ⟨⟨Or.inl (jgw_of (jtb_4 (i := 0) rfl) rfl), km_J2_checkBoundsBeginEnd_d044e, ki_J2, ⟨by decide +kernel, by decide +kernel, by decide +kernel⟩, by decide +kernel⟩, jgw_of (jtb_4 (i := 1) rfl) rfl⟩
theorem kl_J2_241 : jLkS RJ2 241 eJ0_checkBoundsBeginEnd_23922 3 := ⟨⟨Or.inl (jgw_of (jtb_4 (i := 3) rfl) rfl), km_J0_checkBoundsBeginEnd_23922, ki_J0, ⟨by decide +kernel, by decide +kernel, by decide +kernel⟩, by decide +kernel⟩, jgw_of (jtb_4 (i := 4) rfl) rfl⟩
theorem kl_J0_1062 : jLkS RJ0 1062 eJ3_checkFromToIndex_8c36e 4 := ⟨⟨Or.inl (jgw_of (jtb_4 (i := 6) rfl) rfl), km_J3_checkFromToIndex_8c36e, ki_J3, ⟨by decide +kernel, by decide +kernel, by decide +kernel⟩, by decide +kernel⟩, jgw_of (jtb_4 (i := 7) rfl) rfl⟩
theorem kl_J2_244 : jLkS RJ2 244 eJ2_indexOfCharUnsafe_4cfef 4 := ⟨⟨Or.inl (jgw_of (jtb_4 (i := 9) rfl) rfl), km_J2_indexOfCharUnsafe_4cfef, ki_J2, ⟨by decide +kernel, by decide +kernel, by decide +kernel⟩, by decide +kernel⟩, jgw_of (jtb_4 (i := 10) rfl) rfl⟩
theorem kl_J2_232 : jLkS RJ2 232 eJ2_indexOfSupplementary_4cfef 4 := ⟨⟨Or.inl (jgw_of (jtb_4 (i := 12) rfl) rfl), km_J2_indexOfSupplementary_4cfef, ki_J2, ⟨by decide +kernel, by decide +kernel, by decide +kernel⟩, by decide +kernel⟩, jgw_of (jtb_4 (i := 13) rfl) rfl⟩
theorem kl_J2_164 : jLkS RJ2 164 eJ11_isValidCodePoint_9a6ad 1 := ⟨⟨Or.inl (jgw_of (jtb_4 (i := 15) rfl) rfl), km_J11_isValidCodePoint_9a6ad, ki_J11, ⟨by decide +kernel, by decide +kernel, by decide +kernel⟩, by decide +kernel⟩, jgw_of (jtb_4 (i := 16) rfl) rfl⟩
theorem kl_J2_157 : jLkS RJ2 157 eJ11_highSurrogate_5068e 1 := ⟨⟨Or.inl (jgw_of (jtb_4 (i := 18) rfl) rfl), km_J11_highSurrogate_5068e, ki_J11, ⟨by decide +kernel, by decide +kernel, by decide +kernel⟩, by decide +kernel⟩, jgw_of (jtb_4 (i := 19) rfl) rfl⟩
theorem kl_J2_161 : jLkS RJ2 161 eJ11_lowSurrogate_5068e 1 := ⟨⟨Or.inl (jgw_of (jtb_4 (i := 22) rfl) rfl), km_J11_lowSurrogate_5068e, ki_J11, ⟨by decide +kernel, by decide +kernel, by decide +kernel⟩, by decide +kernel⟩, jgw_of (jtb_4 (i := 23) rfl) rfl⟩
theorem kl_X5_127 : jLkV RX5 127 eX5_hold 1 := ⟨⟨Or.inl (jgw_of (jtb_4 (i := 26) rfl) rfl), km_X5_hold, ki_X5, ⟨by decide +kernel, by decide +kernel, by decide +kernel⟩, by decide +kernel⟩, jgw_of (jtb_4 (i := 28) rfl) rfl, jgw_s (i := 35) (n := 14) (by decide +kernel)⟩
theorem kl_X5_73 : jLkV RX5 73 eX5_readLink 0 := ⟨⟨Or.inl (jgw_of (jtb_4 (i := 30) rfl) rfl), km_X5_readLink, ki_X5, ⟨by decide +kernel, by decide +kernel, by decide +kernel⟩, by decide +kernel⟩, jgw_of (jtb_4 (i := 32) rfl) rfl, jgw_s (i := 36) (n := 14) (by decide +kernel)⟩
theorem kl_X5_76 : jLkV RX5 76 eX5_close 1 := ⟨⟨Or.inl (jgw_of (jtb_4 (i := 34) rfl) rfl), km_X5_close, ki_X5, ⟨by decide +kernel, by decide +kernel, by decide +kernel⟩, by decide +kernel⟩, jgw_of (jtb_4 (i := 36) rfl) rfl, jgw_s (i := 37) (n := 14) (by decide +kernel)⟩
theorem kl_X5_136 : jLkS RX5 136 eX5_levelOf 1 := ⟨⟨Or.inl (jgw_of (jtb_4 (i := 38) rfl) rfl), km_X5_levelOf, ki_X5, ⟨by decide +kernel, by decide +kernel, by decide +kernel⟩, by decide +kernel⟩, jgw_of (jtb_4 (i := 39) rfl) rfl⟩
theorem kl_X7_235 : jLkV RX7 235 eX6_store 3 := ⟨⟨Or.inr ⟨"SkinShow", jnw_of (jtb_4 (i := 41) rfl) rfl⟩, km_X6_store, ki_X6, ⟨by decide +kernel, by decide +kernel, by decide +kernel⟩, by decide +kernel⟩, jgw_of (jtb_4 (i := 43) rfl) rfl, jgw_s (i := 38) (n := 6) (by decide +kernel)⟩
theorem kl_L_98 : jLkV RL 98 eX7_of 2 := ⟨⟨Or.inl (jgw_of (jtb_4 (i := 46) rfl) rfl), km_X7_of, ki_X7, ⟨by decide +kernel, by decide +kernel, by decide +kernel⟩, by decide +kernel⟩, jgw_of (jtb_4 (i := 47) rfl) rfl, jgw_of (jtb_4 (i := 48) rfl) rfl⟩
theorem kl_L_102 : jLkV RL 102 eX7_why 1 := ⟨⟨Or.inl (jgw_of (jtb_4 (i := 50) rfl) rfl), km_X7_why, ki_X7, ⟨by decide +kernel, by decide +kernel, by decide +kernel⟩, by decide +kernel⟩, jgw_of (jtb_4 (i := 51) rfl) rfl, jgw_of (jtb_4 (i := 52) rfl) rfl⟩
theorem kl_X7_246 : jLkV RX7 246 eX6_counting 2 := ⟨⟨Or.inr ⟨"SkinShow", jnw_of (jtb_4 (i := 54) rfl) rfl⟩, km_X6_counting, ki_X6, ⟨by decide +kernel, by decide +kernel, by decide +kernel⟩, by decide +kernel⟩, jgw_of (jtb_4 (i := 56) rfl) rfl, jgw_s (i := 39) (n := 6) (by decide +kernel)⟩
theorem kl_L_106 : jLkV RL 106 eX7_gives 5 := ⟨⟨Or.inl (jgw_of (jtb_4 (i := 59) rfl) rfl), km_X7_gives, ki_X7, ⟨by decide +kernel, by decide +kernel, by decide +kernel⟩, by decide +kernel⟩, jgw_of (jtb_4 (i := 60) rfl) rfl, jgw_of (jtb_4 (i := 61) rfl) rfl⟩
theorem kl_X7_250 : jLkV RX7 250 eX6_worth 5 := ⟨⟨Or.inr ⟨"SkinShow", jnw_of (jtb_4 (i := 63) rfl) rfl⟩, km_X6_worth, ki_X6, ⟨by decide +kernel, by decide +kernel, by decide +kernel⟩, by decide +kernel⟩, jgw_of (jtb_4 (i := 65) rfl) rfl, jgw_s (i := 40) (n := 6) (by decide +kernel)⟩
theorem kl_X6_58 : jLkS RX6 58 eX6_joined 3 := ⟨⟨Or.inl (jgw_of (jtb_4 (i := 67) rfl) rfl), km_X6_joined, ki_X6, ⟨by decide +kernel, by decide +kernel, by decide +kernel⟩, by decide +kernel⟩, jgw_of (jtb_4 (i := 68) rfl) rfl⟩
theorem kl_L_110 : jLkV RL 110 eX7_habit 1 := ⟨⟨Or.inl (jgw_of (jtb_4 (i := 70) rfl) rfl), km_X7_habit, ki_X7, ⟨by decide +kernel, by decide +kernel, by decide +kernel⟩, by decide +kernel⟩, jgw_of (jtb_4 (i := 71) rfl) rfl, jgw_of (jtb_4 (i := 72) rfl) rfl⟩
theorem kl_X7_253 : jLkS RX7 253 eX7_held 2 := ⟨⟨Or.inl (jgw_of (jtb_4 (i := 74) rfl) rfl), km_X7_held, ki_X7, ⟨by decide +kernel, by decide +kernel, by decide +kernel⟩, by decide +kernel⟩, jgw_of (jtb_2 (i := 204) rfl) rfl⟩
theorem kl_L_114 : jLkV RL 114 eX7_seen 2 := ⟨⟨Or.inl (jgw_of (jtb_4 (i := 75) rfl) rfl), km_X7_seen, ki_X7, ⟨by decide +kernel, by decide +kernel, by decide +kernel⟩, by decide +kernel⟩, jgw_of (jtb_4 (i := 76) rfl) rfl, jgw_of (jtb_4 (i := 77) rfl) rfl⟩
theorem kl_X7_256 : jLkV RX7 256 eX7_lookAt 2 := ⟨⟨Or.inl (jgw_of (jtb_4 (i := 79) rfl) rfl), km_X7_lookAt, ki_X7, ⟨by decide +kernel, by decide +kernel, by decide +kernel⟩, by decide +kernel⟩, jgw_of (jtb_4 (i := 81) rfl) rfl, jgw_s (i := 41) (n := 12) (by decide +kernel)⟩
theorem kl_X7_339 : jLkV RX7 339 eX0_face 2 := ⟨⟨Or.inr ⟨"SkinShow", jnw_of (jtb_4 (i := 83) rfl) rfl⟩, km_X0_face, ki_X0, ⟨by decide +kernel, by decide +kernel, by decide +kernel⟩, by decide +kernel⟩, jgw_of (jtb_4 (i := 85) rfl) rfl, jgw_s (i := 42) (n := 9) (by decide +kernel)⟩
theorem kl_X0_42 : jLkV RX0 42 eX1_shadeAt 2 := ⟨⟨Or.inr ⟨"SkinShow", jnw_of (jtb_4 (i := 87) rfl) rfl⟩, km_X1_shadeAt, ki_X1, ⟨by decide +kernel, by decide +kernel, by decide +kernel⟩, by decide +kernel⟩, jgw_of (jtb_3 (i := 53) rfl) rfl, jgw_s (i := 14) (n := 5) (by decide +kernel)⟩
theorem kl_X7_343 : jLkV RX7 343 eX0_look 1 := ⟨⟨Or.inr ⟨"SkinShow", jnw_of (jtb_4 (i := 88) rfl) rfl⟩, km_X0_look, ki_X0, ⟨by decide +kernel, by decide +kernel, by decide +kernel⟩, by decide +kernel⟩, jgw_of (jtb_4 (i := 90) rfl) rfl, jgw_s (i := 43) (n := 9) (by decide +kernel)⟩
theorem kl_X0_48 : jLkV RX0 48 eX4_lightAt 1 := ⟨⟨Or.inr ⟨"SkinShow", jnw_of (jtb_4 (i := 92) rfl) rfl⟩, km_X4_lightAt, ki_X4, ⟨by decide +kernel, by decide +kernel, by decide +kernel⟩, by decide +kernel⟩, jgw_of (jtb_2 (i := 196) rfl) rfl, jgw_s (i := 5) (n := 17) (by decide +kernel)⟩
theorem kl_X7_346 : jLkV RX7 346 eX0_findMoves 1 := ⟨⟨Or.inr ⟨"SkinShow", jnw_of (jtb_4 (i := 93) rfl) rfl⟩, km_X0_findMoves, ki_X0, ⟨by decide +kernel, by decide +kernel, by decide +kernel⟩, by decide +kernel⟩, jgw_of (jtb_4 (i := 95) rfl) rfl, jgw_s (i := 44) (n := 9) (by decide +kernel)⟩
theorem kl_X0_57 : jLkS RX0 57 eJ9_abs_0f7a4 1 := ⟨⟨Or.inl (jgw_of (jtb_4 (i := 97) rfl) rfl), km_J9_abs_0f7a4, ki_J9, ⟨by decide +kernel, by decide +kernel, by decide +kernel⟩, by decide +kernel⟩, jgw_of (jtb_3 (i := 6) rfl) rfl⟩
theorem kl_X7_349 : jLkV RX7 349 eX0_findEdges 1 := ⟨⟨Or.inr ⟨"SkinShow", jnw_of (jtb_4 (i := 98) rfl) rfl⟩, km_X0_findEdges, ki_X0, ⟨by decide +kernel, by decide +kernel, by decide +kernel⟩, by decide +kernel⟩, jgw_of (jtb_4 (i := 100) rfl) rfl, jgw_s (i := 45) (n := 9) (by decide +kernel)⟩
theorem kl_X0_62 : jLkV RX0 62 eX0_markEdge 3 := ⟨⟨Or.inl (jgw_of (jtb_4 (i := 102) rfl) rfl), km_X0_markEdge, ki_X0, ⟨by decide +kernel, by decide +kernel, by decide +kernel⟩, by decide +kernel⟩, jgw_of (jtb_4 (i := 104) rfl) rfl, jgw_s (i := 46) (n := 9) (by decide +kernel)⟩
theorem kl_X7_260 : jLkV RX7 260 eX0_sees 3 := ⟨⟨Or.inr ⟨"SkinShow", jnw_of (jtb_4 (i := 106) rfl) rfl⟩, km_X0_sees, ki_X0, ⟨by decide +kernel, by decide +kernel, by decide +kernel⟩, by decide +kernel⟩, jgw_of (jtb_4 (i := 108) rfl) rfl, jgw_s (i := 47) (n := 9) (by decide +kernel)⟩
theorem kl_X0_66 : jLkV RX0 66 eX6_worth 5 := ⟨⟨Or.inr ⟨"SkinShow", jnw_of (jtb_4 (i := 110) rfl) rfl⟩, km_X6_worth, ki_X6, ⟨by decide +kernel, by decide +kernel, by decide +kernel⟩, by decide +kernel⟩, jgw_of (jtb_4 (i := 65) rfl) rfl, jgw_s (i := 40) (n := 6) (by decide +kernel)⟩
theorem kl_L_118 : jLkV RL 118 eX7_beast 2 := ⟨⟨Or.inl (jgw_of (jtb_4 (i := 111) rfl) rfl), km_X7_beast, ki_X7, ⟨by decide +kernel, by decide +kernel, by decide +kernel⟩, by decide +kernel⟩, jgw_of (jtb_4 (i := 112) rfl) rfl, jgw_of (jtb_4 (i := 113) rfl) rfl⟩
theorem kl_X7_264 : jLkV RX7 264 eX7_spotAll 2 := ⟨⟨Or.inl (jgw_of (jtb_4 (i := 115) rfl) rfl), km_X7_spotAll, ki_X7, ⟨by decide +kernel, by decide +kernel, by decide +kernel⟩, by decide +kernel⟩, jgw_of (jtb_4 (i := 117) rfl) rfl, jgw_s (i := 48) (n := 12) (by decide +kernel)⟩
theorem kl_X7_352 : jLkV RX7 352 eX0_spotAll 2 := ⟨⟨Or.inr ⟨"SkinShow", jnw_of (jtb_4 (i := 119) rfl) rfl⟩, km_X0_spotAll, ki_X0, ⟨by decide +kernel, by decide +kernel, by decide +kernel⟩, by decide +kernel⟩, jgw_of (jtb_4 (i := 121) rfl) rfl, jgw_s (i := 49) (n := 9) (by decide +kernel)⟩
theorem kl_X0_72 : jLkV RX0 72 eX0_sees 3 := ⟨⟨Or.inl (jgw_of (jtb_4 (i := 123) rfl) rfl), km_X0_sees, ki_X0, ⟨by decide +kernel, by decide +kernel, by decide +kernel⟩, by decide +kernel⟩, jgw_of (jtb_4 (i := 108) rfl) rfl, jgw_s (i := 47) (n := 9) (by decide +kernel)⟩
theorem kl_X7_268 : jLkV RX7 268 eX0_gather 0 := ⟨⟨Or.inr ⟨"SkinShow", jnw_of (jtb_4 (i := 124) rfl) rfl⟩, km_X0_gather, ki_X0, ⟨by decide +kernel, by decide +kernel, by decide +kernel⟩, by decide +kernel⟩, jgw_of (jtb_4 (i := 126) rfl) rfl, jgw_s (i := 50) (n := 9) (by decide +kernel)⟩
theorem kl_X0_76 : jLkV RX0 76 eX0_follow 1 := ⟨⟨Or.inl (jgw_of (jtb_4 (i := 128) rfl) rfl), km_X0_follow, ki_X0, ⟨by decide +kernel, by decide +kernel, by decide +kernel⟩, by decide +kernel⟩, jgw_of (jtb_4 (i := 130) rfl) rfl, jgw_s (i := 51) (n := 9) (by decide +kernel)⟩
theorem kl_X0_79 : jLkS RX0 79 eX7_beside 2 := ⟨⟨Or.inr ⟨"SkinShow", jnw_of (jtb_4 (i := 132) rfl) rfl⟩, km_X7_beside, ki_X7, ⟨by decide +kernel, by decide +kernel, by decide +kernel⟩, by decide +kernel⟩, jgw_of (jtb_3 (i := 78) rfl) rfl⟩
theorem kl_L_122 : jLkV RL 122 eX7_hide 3 := ⟨⟨Or.inl (jgw_of (jtb_4 (i := 133) rfl) rfl), km_X7_hide, ki_X7, ⟨by decide +kernel, by decide +kernel, by decide +kernel⟩, by decide +kernel⟩, jgw_of (jtb_4 (i := 134) rfl) rfl, jgw_of (jtb_4 (i := 135) rfl) rfl⟩
theorem kl_X7_280 : jLkV RX7 280 eX3_choose 1 := ⟨⟨Or.inr ⟨"SkinShow", jnw_of (jtb_4 (i := 137) rfl) rfl⟩, km_X3_choose, ki_X3, ⟨by decide +kernel, by decide +kernel, by decide +kernel⟩, by decide +kernel⟩, jgw_of (jtb_4 (i := 139) rfl) rfl, jgw_s (i := 52) (n := 8) (by decide +kernel)⟩
theorem kl_X3_46 : jLkS RX3 46 eX7_within 3 := ⟨⟨Or.inr ⟨"SkinShow", jnw_of (jtb_4 (i := 141) rfl) rfl⟩, km_X7_within, ki_X7, ⟨by decide +kernel, by decide +kernel, by decide +kernel⟩, by decide +kernel⟩, jgw_of (jtb_2 (i := 127) rfl) rfl⟩
theorem kl_X7_283 : jLkV RX7 283 eX3_begin 3 := ⟨⟨Or.inr ⟨"SkinShow", jnw_of (jtb_4 (i := 142) rfl) rfl⟩, km_X3_begin, ki_X3, ⟨by decide +kernel, by decide +kernel, by decide +kernel⟩, by decide +kernel⟩, jgw_of (jtb_4 (i := 144) rfl) rfl, jgw_s (i := 53) (n := 8) (by decide +kernel)⟩
theorem kl_X3_50 : jLkV RX3 50 eX4_becomes 1 := ⟨⟨Or.inr ⟨"SkinShow", jnw_of (jtb_4 (i := 146) rfl) rfl⟩, km_X4_becomes, ki_X4, ⟨by decide +kernel, by decide +kernel, by decide +kernel⟩, by decide +kernel⟩, jgw_of (jtb_3 (i := 14) rfl) rfl, jgw_s (i := 11) (n := 17) (by decide +kernel)⟩
theorem kl_X3_54 : jLkV RX3 54 eX0_face 2 := ⟨⟨Or.inr ⟨"SkinShow", jnw_of (jtb_4 (i := 147) rfl) rfl⟩, km_X0_face, ki_X0, ⟨by decide +kernel, by decide +kernel, by decide +kernel⟩, by decide +kernel⟩, jgw_of (jtb_4 (i := 85) rfl) rfl, jgw_s (i := 42) (n := 9) (by decide +kernel)⟩
theorem kl_X3_58 : jLkV RX3 58 eX3_findIdle 0 := ⟨⟨Or.inl (jgw_of (jtb_4 (i := 148) rfl) rfl), km_X3_findIdle, ki_X3, ⟨by decide +kernel, by decide +kernel, by decide +kernel⟩, by decide +kernel⟩, jgw_of (jtb_4 (i := 150) rfl) rfl, jgw_s (i := 54) (n := 8) (by decide +kernel)⟩
theorem kl_X3_86 : jLkV RX3 86 eX4_settle 0 := ⟨⟨Or.inr ⟨"SkinShow", jnw_of (jtb_4 (i := 152) rfl) rfl⟩, km_X4_settle, ki_X4, ⟨by decide +kernel, by decide +kernel, by decide +kernel⟩, by decide +kernel⟩, jgw_of (jtb_2 (i := 233) rfl) rfl, jgw_s (i := 9) (n := 17) (by decide +kernel)⟩
theorem kl_X7_287 : jLkV RX7 287 eX3_seek 2 := ⟨⟨Or.inr ⟨"SkinShow", jnw_of (jtb_4 (i := 153) rfl) rfl⟩, km_X3_seek, ki_X3, ⟨by decide +kernel, by decide +kernel, by decide +kernel⟩, by decide +kernel⟩, jgw_of (jtb_4 (i := 155) rfl) rfl, jgw_s (i := 55) (n := 8) (by decide +kernel)⟩
theorem kl_X3_61 : jLkV RX3 61 eX3_allTries 0 := ⟨⟨Or.inl (jgw_of (jtb_4 (i := 157) rfl) rfl), km_X3_allTries, ki_X3, ⟨by decide +kernel, by decide +kernel, by decide +kernel⟩, by decide +kernel⟩, jgw_of (jtb_4 (i := 159) rfl) rfl, jgw_s (i := 56) (n := 8) (by decide +kernel)⟩
theorem kl_X3_65 : jLkV RX3 65 eX3_forgetJudged 0 := ⟨⟨Or.inl (jgw_of (jtb_4 (i := 161) rfl) rfl), km_X3_forgetJudged, ki_X3, ⟨by decide +kernel, by decide +kernel, by decide +kernel⟩, by decide +kernel⟩, jgw_of (jtb_4 (i := 163) rfl) rfl, jgw_s (i := 57) (n := 8) (by decide +kernel)⟩
theorem kl_X3_68 : jLkV RX3 68 eX3_puts 1 := ⟨⟨Or.inl (jgw_of (jtb_4 (i := 165) rfl) rfl), km_X3_puts, ki_X3, ⟨by decide +kernel, by decide +kernel, by decide +kernel⟩, by decide +kernel⟩, jgw_of (jtb_4 (i := 167) rfl) rfl, jgw_s (i := 58) (n := 8) (by decide +kernel)⟩
theorem kl_X3_89 : jLkV RX3 89 eX0_look 1 := ⟨⟨Or.inr ⟨"SkinShow", jnw_of (jtb_4 (i := 169) rfl) rfl⟩, km_X0_look, ki_X0, ⟨by decide +kernel, by decide +kernel, by decide +kernel⟩, by decide +kernel⟩, jgw_of (jtb_4 (i := 90) rfl) rfl, jgw_s (i := 43) (n := 9) (by decide +kernel)⟩
theorem kl_X3_72 : jLkV RX3 72 eX3_allSeen 2 := ⟨⟨Or.inl (jgw_of (jtb_4 (i := 170) rfl) rfl), km_X3_allSeen, ki_X3, ⟨by decide +kernel, by decide +kernel, by decide +kernel⟩, by decide +kernel⟩, jgw_of (jtb_4 (i := 172) rfl) rfl, jgw_s (i := 59) (n := 8) (by decide +kernel)⟩
theorem kl_X3_95 : jLkV RX3 95 eX0_findEdges 1 := ⟨⟨Or.inr ⟨"SkinShow", jnw_of (jtb_4 (i := 174) rfl) rfl⟩, km_X0_findEdges, ki_X0, ⟨by decide +kernel, by decide +kernel, by decide +kernel⟩, by decide +kernel⟩, jgw_of (jtb_4 (i := 100) rfl) rfl, jgw_s (i := 45) (n := 9) (by decide +kernel)⟩
theorem kl_X3_99 : jLkV RX3 99 eX3_seenOnce 3 := ⟨⟨Or.inl (jgw_of (jtb_4 (i := 175) rfl) rfl), km_X3_seenOnce, ki_X3, ⟨by decide +kernel, by decide +kernel, by decide +kernel⟩, by decide +kernel⟩, jgw_of (jtb_4 (i := 177) rfl) rfl, jgw_s (i := 60) (n := 8) (by decide +kernel)⟩
theorem kl_X3_109 : jLkV RX3 109 eX0_sees 3 := ⟨⟨Or.inr ⟨"SkinShow", jnw_of (jtb_4 (i := 179) rfl) rfl⟩, km_X0_sees, ki_X0, ⟨by decide +kernel, by decide +kernel, by decide +kernel⟩, by decide +kernel⟩, jgw_of (jtb_4 (i := 108) rfl) rfl, jgw_s (i := 47) (n := 9) (by decide +kernel)⟩
theorem kl_X3_76 : jLkV RX3 76 eX3_weigh 2 := ⟨⟨Or.inl (jgw_of (jtb_4 (i := 180) rfl) rfl), km_X3_weigh, ki_X3, ⟨by decide +kernel, by decide +kernel, by decide +kernel⟩, by decide +kernel⟩, jgw_of (jtb_4 (i := 182) rfl) rfl, jgw_s (i := 61) (n := 8) (by decide +kernel)⟩
theorem kl_L_126 : jLkV RL 126 eX7_misses 3 := ⟨⟨Or.inl (jgw_of (jtb_4 (i := 184) rfl) rfl), km_X7_misses, ki_X7, ⟨by decide +kernel, by decide +kernel, by decide +kernel⟩, by decide +kernel⟩, jgw_of (jtb_4 (i := 185) rfl) rfl, jgw_of (jtb_4 (i := 186) rfl) rfl⟩
theorem kl_X7_297 : jLkV RX7 297 eX3_match 0 := ⟨⟨Or.inr ⟨"SkinShow", jnw_of (jtb_4 (i := 188) rfl) rfl⟩, km_X3_match, ki_X3, ⟨by decide +kernel, by decide +kernel, by decide +kernel⟩, by decide +kernel⟩, jgw_of (jtb_4 (i := 190) rfl) rfl, jgw_s (i := 62) (n := 8) (by decide +kernel)⟩
theorem kl_X3_80 : jLkV RX3 80 eX0_allDiffering 0 := ⟨⟨Or.inr ⟨"SkinShow", jnw_of (jtb_4 (i := 192) rfl) rfl⟩, km_X0_allDiffering, ki_X0, ⟨by decide +kernel, by decide +kernel, by decide +kernel⟩, by decide +kernel⟩, jgw_of (jtb_4 (i := 194) rfl) rfl, jgw_s (i := 63) (n := 9) (by decide +kernel)⟩
theorem kl_L_130 : jLkV RL 130 eX7_half 2 := ⟨⟨Or.inl (jgw_of (jtb_4 (i := 196) rfl) rfl), km_X7_half, ki_X7, ⟨by decide +kernel, by decide +kernel, by decide +kernel⟩, by decide +kernel⟩, jgw_of (jtb_4 (i := 197) rfl) rfl, jgw_of (jtb_4 (i := 198) rfl) rfl⟩
theorem kl_L_134 : jLkV RL 134 eX7_learn 2 := ⟨⟨Or.inl (jgw_of (jtb_4 (i := 200) rfl) rfl), km_X7_learn, ki_X7, ⟨by decide +kernel, by decide +kernel, by decide +kernel⟩, by decide +kernel⟩, jgw_of (jtb_4 (i := 201) rfl) rfl, jgw_of (jtb_4 (i := 202) rfl) rfl⟩
theorem kl_L_138 : jLkV RL 138 eX7_apart 1 := ⟨⟨Or.inl (jgw_of (jtb_4 (i := 204) rfl) rfl), km_X7_apart, ki_X7, ⟨by decide +kernel, by decide +kernel, by decide +kernel⟩, by decide +kernel⟩, jgw_of (jtb_4 (i := 205) rfl) rfl, jgw_of (jtb_4 (i := 206) rfl) rfl⟩
theorem kl_X7_309 : jLkV RX7 309 eX2_tellsApart 2 := ⟨⟨Or.inr ⟨"SkinShow", jnw_of (jtb_4 (i := 208) rfl) rfl⟩, km_X2_tellsApart, ki_X2, ⟨by decide +kernel, by decide +kernel, by decide +kernel⟩, by decide +kernel⟩, jgw_of (jtb_4 (i := 210) rfl) rfl, jgw_s (i := 64) (n := 4) (by decide +kernel)⟩
theorem kl_X2_26 : jLkV RX2 26 eX2_differ 3 := ⟨⟨Or.inl (jgw_of (jtb_4 (i := 212) rfl) rfl), km_X2_differ, ki_X2, ⟨by decide +kernel, by decide +kernel, by decide +kernel⟩, by decide +kernel⟩, jgw_of (jtb_4 (i := 214) rfl) rfl, jgw_s (i := 65) (n := 4) (by decide +kernel)⟩
theorem kl_L_142 : jLkV RL 142 eX7_fewest 0 := ⟨⟨Or.inl (jgw_of (jtb_4 (i := 216) rfl) rfl), km_X7_fewest, ki_X7, ⟨by decide +kernel, by decide +kernel, by decide +kernel⟩, by decide +kernel⟩, jgw_of (jtb_4 (i := 217) rfl) rfl, jgw_of (jtb_4 (i := 218) rfl) rfl⟩
theorem kl_X7_312 : jLkS RX7 312 eJ6_bitCount_0f7a4 1 := ⟨⟨Or.inl (jgw_of (jtb_4 (i := 220) rfl) rfl), km_J6_bitCount_0f7a4, ki_J6, ⟨by decide +kernel, by decide +kernel, by decide +kernel⟩, by decide +kernel⟩, jgw_of (jtb_4 (i := 221) rfl) rfl⟩
theorem kl_L_146 : jLkV RL 146 eX7_watch 1 := ⟨⟨Or.inl (jgw_of (jtb_4 (i := 226) rfl) rfl), km_X7_watch, ki_X7, ⟨by decide +kernel, by decide +kernel, by decide +kernel⟩, by decide +kernel⟩, jgw_of (jtb_4 (i := 227) rfl) rfl, jgw_of (jtb_4 (i := 228) rfl) rfl⟩
theorem kl_L_150 : jLkV RL 150 eX7_alike 2 := ⟨⟨Or.inl (jgw_of (jtb_4 (i := 231) rfl) rfl), km_X7_alike, ki_X7, ⟨by decide +kernel, by decide +kernel, by decide +kernel⟩, by decide +kernel⟩, jgw_of (jtb_4 (i := 232) rfl) rfl, jgw_of (jtb_4 (i := 233) rfl) rfl⟩
theorem kl_X7_324 : jLkV RX7 324 eX2_marksOf 3 := ⟨⟨Or.inr ⟨"SkinShow", jnw_of (jtb_4 (i := 235) rfl) rfl⟩, km_X2_marksOf, ki_X2, ⟨by decide +kernel, by decide +kernel, by decide +kernel⟩, by decide +kernel⟩, jgw_of (jtb_4 (i := 237) rfl) rfl, jgw_s (i := 66) (n := 4) (by decide +kernel)⟩
theorem kl_L_154 : jLkV RL 154 eX7_kinds 1 := ⟨⟨Or.inl (jgw_of (jtb_4 (i := 239) rfl) rfl), km_X7_kinds, ki_X7, ⟨by decide +kernel, by decide +kernel, by decide +kernel⟩, by decide +kernel⟩, jgw_of (jtb_5 (i := 0) rfl) rfl, jgw_of (jtb_5 (i := 1) rfl) rfl⟩
theorem kl_X7_327 : jLkV RX7 327 eX2_unlike 2 := ⟨⟨Or.inr ⟨"SkinShow", jnw_of (jtb_5 (i := 3) rfl) rfl⟩, km_X2_unlike, ki_X2, ⟨by decide +kernel, by decide +kernel, by decide +kernel⟩, by decide +kernel⟩, jgw_of (jtb_5 (i := 5) rfl) rfl, jgw_s (i := 67) (n := 4) (by decide +kernel)⟩
theorem kl_X2_36 : jLkS RX2 36 eJ9_min_7cf53 2 := ⟨⟨Or.inl (jgw_of (jtb_5 (i := 7) rfl) rfl), km_J9_min_7cf53, ki_J9, ⟨by decide +kernel, by decide +kernel, by decide +kernel⟩, by decide +kernel⟩, jgw_of (jtb_2 (i := 146) rfl) rfl⟩
theorem kl_X2_45 : jLkV RX2 45 eX2_marksOf 3 := ⟨⟨Or.inl (jgw_of (jtb_5 (i := 8) rfl) rfl), km_X2_marksOf, ki_X2, ⟨by decide +kernel, by decide +kernel, by decide +kernel⟩, by decide +kernel⟩, jgw_of (jtb_4 (i := 237) rfl) rfl, jgw_s (i := 66) (n := 4) (by decide +kernel)⟩
theorem kl_L_158 : jLkV RL 158 eX7_parts 0 := ⟨⟨Or.inl (jgw_of (jtb_5 (i := 9) rfl) rfl), km_X7_parts, ki_X7, ⟨by decide +kernel, by decide +kernel, by decide +kernel⟩, by decide +kernel⟩, jgw_of (jtb_5 (i := 10) rfl) rfl, jgw_of (jtb_5 (i := 11) rfl) rfl⟩
theorem kl_L_162 : jLkV RL 162 eX7_tell 1 := ⟨⟨Or.inl (jgw_of (jtb_5 (i := 13) rfl) rfl), km_X7_tell, ki_X7, ⟨by decide +kernel, by decide +kernel, by decide +kernel⟩, by decide +kernel⟩, jgw_of (jtb_5 (i := 14) rfl) rfl, jgw_of (jtb_5 (i := 15) rfl) rfl⟩
theorem kl_L_166 : jLkV RL 166 eX7_check 1 := ⟨⟨Or.inl (jgw_of (jtb_5 (i := 17) rfl) rfl), km_X7_check, ki_X7, ⟨by decide +kernel, by decide +kernel, by decide +kernel⟩, by decide +kernel⟩, jgw_of (jtb_5 (i := 18) rfl) rfl, jgw_of (jtb_5 (i := 19) rfl) rfl⟩
theorem kl_X7_330 : jLkV RX7 330 eX4_allSizes 0 := ⟨⟨Or.inr ⟨"SkinShow", jnw_of (jtb_5 (i := 21) rfl) rfl⟩, km_X4_allSizes, ki_X4, ⟨by decide +kernel, by decide +kernel, by decide +kernel⟩, by decide +kernel⟩, jgw_of (jtb_5 (i := 23) rfl) rfl, jgw_s (i := 68) (n := 17) (by decide +kernel)⟩
theorem kl_L_170 : jLkV RL 170 eX7_keep 0 := ⟨⟨Or.inl (jgw_of (jtb_5 (i := 25) rfl) rfl), km_X7_keep, ki_X7, ⟨by decide +kernel, by decide +kernel, by decide +kernel⟩, by decide +kernel⟩, jgw_of (jtb_5 (i := 26) rfl) rfl, jgw_of (jtb_5 (i := 27) rfl) rfl⟩
theorem kl_L_174 : jLkV RL 174 eX7_back 0 := ⟨⟨Or.inl (jgw_of (jtb_5 (i := 29) rfl) rfl), km_X7_back, ki_X7, ⟨by decide +kernel, by decide +kernel, by decide +kernel⟩, by decide +kernel⟩, jgw_of (jtb_5 (i := 30) rfl) rfl, jgw_of (jtb_5 (i := 31) rfl) rfl⟩
theorem kl_L_178 : jLkV RL 178 eX7_count 1 := ⟨⟨Or.inl (jgw_of (jtb_5 (i := 33) rfl) rfl), km_X7_count, ki_X7, ⟨by decide +kernel, by decide +kernel, by decide +kernel⟩, by decide +kernel⟩, jgw_of (jtb_5 (i := 34) rfl) rfl, jgw_of (jtb_5 (i := 35) rfl) rfl⟩
theorem kl_X7_333 : jLkV RX7 333 eX4_partsOf 1 := ⟨⟨Or.inr ⟨"SkinShow", jnw_of (jtb_5 (i := 37) rfl) rfl⟩, km_X4_partsOf, ki_X4, ⟨by decide +kernel, by decide +kernel, by decide +kernel⟩, by decide +kernel⟩, jgw_of (jtb_5 (i := 39) rfl) rfl, jgw_s (i := 69) (n := 17) (by decide +kernel)⟩
theorem kl_X7_336 : jLkV RX7 336 eX1_linesThere 0 := ⟨⟨Or.inr ⟨"SkinShow", jnw_of (jtb_5 (i := 41) rfl) rfl⟩, km_X1_linesThere, ki_X1, ⟨by decide +kernel, by decide +kernel, by decide +kernel⟩, by decide +kernel⟩, jgw_of (jtb_5 (i := 43) rfl) rfl, jgw_s (i := 70) (n := 5) (by decide +kernel)⟩
theorem kl_L_12 : jLkI RL 12 eX8_init 0 := ⟨⟨Or.inl (jgw_of (jtb_5 (i := 47) rfl) rfl), km_X8_init, ki_X8, ⟨by decide +kernel, by decide +kernel, by decide +kernel⟩, by decide +kernel⟩, jgw_of (jtb_5 (i := 48) rfl) rfl, rfl, rfl⟩
theorem kl_L_17 : jLkV RL 17 eX8_part 5 := ⟨⟨Or.inl (jgw_of (jtb_5 (i := 163) rfl) rfl), km_X8_part, ki_X8, ⟨by decide +kernel, by decide +kernel, by decide +kernel⟩, by decide +kernel⟩, jgw_of (jtb_5 (i := 164) rfl) rfl, jgw_of (jtb_5 (i := 165) rfl) rfl⟩
theorem kl_X8_71 : jLkS RX8 71 eX8_isIn 3 := ⟨⟨Or.inl (jgw_of (jtb_5 (i := 168) rfl) rfl), km_X8_isIn, ki_X8, ⟨by decide +kernel, by decide +kernel, by decide +kernel⟩, by decide +kernel⟩, jgw_of (jtb_5 (i := 169) rfl) rfl⟩
theorem kl_X8_85 : jLkS RX8 85 eX8_isPlace 1 := ⟨⟨Or.inl (jgw_of (jtb_5 (i := 171) rfl) rfl), km_X8_isPlace, ki_X8, ⟨by decide +kernel, by decide +kernel, by decide +kernel⟩, by decide +kernel⟩, jgw_of (jtb_5 (i := 172) rfl) rfl⟩
theorem kl_X8_92 : jLkV RX8 92 eX8_onPlace 1 := ⟨⟨Or.inl (jgw_of (jtb_5 (i := 177) rfl) rfl), km_X8_onPlace, ki_X8, ⟨by decide +kernel, by decide +kernel, by decide +kernel⟩, by decide +kernel⟩, jgw_of (jtb_5 (i := 179) rfl) rfl, jgw_s (i := 71) (n := 37) (by decide +kernel)⟩
theorem kl_X8_81 : jLkV RX8 81 eX8_partAt 1 := ⟨⟨Or.inl (jgw_of (jtb_5 (i := 181) rfl) rfl), km_X8_partAt, ki_X8, ⟨by decide +kernel, by decide +kernel, by decide +kernel⟩, by decide +kernel⟩, jgw_of (jtb_5 (i := 183) rfl) rfl, jgw_s (i := 72) (n := 37) (by decide +kernel)⟩
theorem kl_L_22 : jLkV RL 22 eX8_told 2 := ⟨⟨Or.inl (jgw_of (jtb_5 (i := 187) rfl) rfl), km_X8_told, ki_X8, ⟨by decide +kernel, by decide +kernel, by decide +kernel⟩, by decide +kernel⟩, jgw_of (jtb_5 (i := 188) rfl) rfl, jgw_of (jtb_5 (i := 189) rfl) rfl⟩
theorem kl_X8_104 : jLkV RX8 104 eX8_isPart 1 := ⟨⟨Or.inl (jgw_of (jtb_5 (i := 191) rfl) rfl), km_X8_isPart, ki_X8, ⟨by decide +kernel, by decide +kernel, by decide +kernel⟩, by decide +kernel⟩, jgw_of (jtb_5 (i := 193) rfl) rfl, jgw_s (i := 73) (n := 37) (by decide +kernel)⟩
theorem kl_X8_107 : jLkV RX8 107 eX8_aimOf 1 := ⟨⟨Or.inl (jgw_of (jtb_5 (i := 195) rfl) rfl), km_X8_aimOf, ki_X8, ⟨by decide +kernel, by decide +kernel, by decide +kernel⟩, by decide +kernel⟩, jgw_of (jtb_5 (i := 197) rfl) rfl, jgw_s (i := 74) (n := 37) (by decide +kernel)⟩
theorem kl_X8_97 : jLkV RX8 97 eX8_groupOf 1 := ⟨⟨Or.inl (jgw_of (jtb_5 (i := 199) rfl) rfl), km_X8_groupOf, ki_X8, ⟨by decide +kernel, by decide +kernel, by decide +kernel⟩, by decide +kernel⟩, jgw_of (jtb_5 (i := 201) rfl) rfl, jgw_s (i := 75) (n := 37) (by decide +kernel)⟩
theorem kl_X8_100 : jLkS RX8 100 eX8_least 2 := ⟨⟨Or.inl (jgw_of (jtb_5 (i := 203) rfl) rfl), km_X8_least, ki_X8, ⟨by decide +kernel, by decide +kernel, by decide +kernel⟩, by decide +kernel⟩, jgw_of (jtb_5 (i := 204) rfl) rfl⟩
theorem kl_X8_110 : jLkV RX8 110 eX8_paceOf 1 := ⟨⟨Or.inl (jgw_of (jtb_5 (i := 206) rfl) rfl), km_X8_paceOf, ki_X8, ⟨by decide +kernel, by decide +kernel, by decide +kernel⟩, by decide +kernel⟩, jgw_of (jtb_5 (i := 208) rfl) rfl, jgw_s (i := 76) (n := 37) (by decide +kernel)⟩
theorem kl_X8_113 : jLkV RX8 113 eX8_givesOf 1 := ⟨⟨Or.inl (jgw_of (jtb_5 (i := 210) rfl) rfl), km_X8_givesOf, ki_X8, ⟨by decide +kernel, by decide +kernel, by decide +kernel⟩, by decide +kernel⟩, jgw_of (jtb_5 (i := 212) rfl) rfl, jgw_s (i := 77) (n := 37) (by decide +kernel)⟩
theorem kl_L_26 : jLkV RL 26 eX8_as 2 := ⟨⟨Or.inl (jgw_of (jtb_5 (i := 214) rfl) rfl), km_X8_as, ki_X8, ⟨by decide +kernel, by decide +kernel, by decide +kernel⟩, by decide +kernel⟩, jgw_of (jtb_5 (i := 215) rfl) rfl, jgw_of (jtb_5 (i := 216) rfl) rfl⟩
theorem kl_L_31 : jLkV RL 31 eX8_dies 1 := ⟨⟨Or.inl (jgw_of (jtb_5 (i := 219) rfl) rfl), km_X8_dies, ki_X8, ⟨by decide +kernel, by decide +kernel, by decide +kernel⟩, by decide +kernel⟩, jgw_of (jtb_5 (i := 220) rfl) rfl, jgw_of (jtb_5 (i := 221) rfl) rfl⟩
theorem kl_L_36 : jLkV RL 36 eX8_nerve 3 := ⟨⟨Or.inl (jgw_of (jtb_5 (i := 223) rfl) rfl), km_X8_nerve, ki_X8, ⟨by decide +kernel, by decide +kernel, by decide +kernel⟩, by decide +kernel⟩, jgw_of (jtb_5 (i := 224) rfl) rfl, jgw_of (jtb_5 (i := 225) rfl) rfl⟩
theorem kl_X8_117 : jLkS RX8 117 eX8_isGroup 1 := ⟨⟨Or.inl (jgw_of (jtb_5 (i := 227) rfl) rfl), km_X8_isGroup, ki_X8, ⟨by decide +kernel, by decide +kernel, by decide +kernel⟩, by decide +kernel⟩, jgw_of (jtb_5 (i := 228) rfl) rfl⟩
theorem kl_X8_120 : jLkV RX8 120 eX8_becomes 2 := ⟨⟨Or.inl (jgw_of (jtb_5 (i := 230) rfl) rfl), km_X8_becomes, ki_X8, ⟨by decide +kernel, by decide +kernel, by decide +kernel⟩, by decide +kernel⟩, jgw_of (jtb_5 (i := 232) rfl) rfl, jgw_s (i := 78) (n := 37) (by decide +kernel)⟩
theorem kl_L_40 : jLkV RL 40 eX8_pull 2 := ⟨⟨Or.inl (jgw_of (jtb_5 (i := 234) rfl) rfl), km_X8_pull, ki_X8, ⟨by decide +kernel, by decide +kernel, by decide +kernel⟩, by decide +kernel⟩, jgw_of (jtb_5 (i := 235) rfl) rfl, jgw_of (jtb_5 (i := 236) rfl) rfl⟩
theorem kl_L_44 : jLkV RL 44 eX8_rule 2 := ⟨⟨Or.inl (jgw_of (jtb_5 (i := 238) rfl) rfl), km_X8_rule, ki_X8, ⟨by decide +kernel, by decide +kernel, by decide +kernel⟩, by decide +kernel⟩, jgw_of (jtb_5 (i := 239) rfl) rfl, jgw_of (jtb_6 (i := 0) rfl) rfl⟩
theorem kl_L_48 : jLkV RL 48 eX8_show 2 := ⟨⟨Or.inl (jgw_of (jtb_6 (i := 4) rfl) rfl), km_X8_show, ki_X8, ⟨by decide +kernel, by decide +kernel, by decide +kernel⟩, by decide +kernel⟩, jgw_of (jtb_6 (i := 5) rfl) rfl, jgw_of (jtb_6 (i := 6) rfl) rfl⟩
theorem kl_X8_130 : jLkV RX8 130 eX8_findLight 0 := ⟨⟨Or.inl (jgw_of (jtb_6 (i := 9) rfl) rfl), km_X8_findLight, ki_X8, ⟨by decide +kernel, by decide +kernel, by decide +kernel⟩, by decide +kernel⟩, jgw_of (jtb_6 (i := 11) rfl) rfl, jgw_s (i := 79) (n := 37) (by decide +kernel)⟩
theorem kl_X8_127 : jLkS RX8 127 eX8_held 2 := ⟨⟨Or.inl (jgw_of (jtb_6 (i := 13) rfl) rfl), km_X8_held, ki_X8, ⟨by decide +kernel, by decide +kernel, by decide +kernel⟩, by decide +kernel⟩, jgw_of (jtb_6 (i := 14) rfl) rfl⟩
theorem kl_X8_133 : jLkS RX8 133 eX8_orNone 1 := ⟨⟨Or.inl (jgw_of (jtb_6 (i := 16) rfl) rfl), km_X8_orNone, ki_X8, ⟨by decide +kernel, by decide +kernel, by decide +kernel⟩, by decide +kernel⟩, jgw_of (jtb_6 (i := 17) rfl) rfl⟩
theorem kl_L_52 : jLkV RL 52 eX8_tick 1 := ⟨⟨Or.inl (jgw_of (jtb_6 (i := 20) rfl) rfl), km_X8_tick, ki_X8, ⟨by decide +kernel, by decide +kernel, by decide +kernel⟩, by decide +kernel⟩, jgw_of (jtb_6 (i := 21) rfl) rfl, jgw_of (jtb_6 (i := 22) rfl) rfl⟩
theorem kl_X8_144 : jLkV RX8 144 eX8_oneTick 0 := ⟨⟨Or.inl (jgw_of (jtb_6 (i := 25) rfl) rfl), km_X8_oneTick, ki_X8, ⟨by decide +kernel, by decide +kernel, by decide +kernel⟩, by decide +kernel⟩, jgw_of (jtb_6 (i := 27) rfl) rfl, jgw_s (i := 80) (n := 37) (by decide +kernel)⟩
theorem kl_X8_136 : jLkV RX8 136 eX8_wasIsLight 0 := ⟨⟨Or.inl (jgw_of (jtb_6 (i := 29) rfl) rfl), km_X8_wasIsLight, ki_X8, ⟨by decide +kernel, by decide +kernel, by decide +kernel⟩, by decide +kernel⟩, jgw_of (jtb_6 (i := 31) rfl) rfl, jgw_s (i := 81) (n := 37) (by decide +kernel)⟩
theorem kl_X8_139 : jLkS RX8 139 eX8_size 1 := ⟨⟨Or.inl (jgw_of (jtb_6 (i := 33) rfl) rfl), km_X8_size, ki_X8, ⟨by decide +kernel, by decide +kernel, by decide +kernel⟩, by decide +kernel⟩, jgw_of (jtb_6 (i := 34) rfl) rfl⟩
theorem kl_L_57 : jLkV RL 57 eX8_rest 0 := ⟨⟨Or.inl (jgw_of (jtb_6 (i := 36) rfl) rfl), km_X8_rest, ki_X8, ⟨by decide +kernel, by decide +kernel, by decide +kernel⟩, by decide +kernel⟩, jgw_of (jtb_6 (i := 37) rfl) rfl, jgw_of (jtb_6 (i := 38) rfl) rfl⟩
theorem kl_X8_147 : jLkV RX8 147 eX8_settle 0 := ⟨⟨Or.inl (jgw_of (jtb_6 (i := 40) rfl) rfl), km_X8_settle, ki_X8, ⟨by decide +kernel, by decide +kernel, by decide +kernel⟩, by decide +kernel⟩, jgw_of (jtb_6 (i := 42) rfl) rfl, jgw_s (i := 82) (n := 37) (by decide +kernel)⟩
theorem kl_L_61 : jLkV RL 61 eX8_still 0 := ⟨⟨Or.inl (jgw_of (jtb_6 (i := 44) rfl) rfl), km_X8_still, ki_X8, ⟨by decide +kernel, by decide +kernel, by decide +kernel⟩, by decide +kernel⟩, jgw_of (jtb_6 (i := 45) rfl) rfl, jgw_of (jtb_6 (i := 46) rfl) rfl⟩
theorem kl_L_65 : jLkV RL 65 eX8_change 0 := ⟨⟨Or.inl (jgw_of (jtb_6 (i := 48) rfl) rfl), km_X8_change, ki_X8, ⟨by decide +kernel, by decide +kernel, by decide +kernel⟩, by decide +kernel⟩, jgw_of (jtb_6 (i := 49) rfl) rfl, jgw_of (jtb_6 (i := 50) rfl) rfl⟩
theorem kl_X8_151 : jLkV RX8 151 eX8_setAside 2 := ⟨⟨Or.inl (jgw_of (jtb_6 (i := 52) rfl) rfl), km_X8_setAside, ki_X8, ⟨by decide +kernel, by decide +kernel, by decide +kernel⟩, by decide +kernel⟩, jgw_of (jtb_6 (i := 54) rfl) rfl, jgw_s (i := 83) (n := 37) (by decide +kernel)⟩
theorem kl_X8_155 : jLkV RX8 155 eX8_still 0 := ⟨⟨Or.inl (jgw_of (jtb_6 (i := 56) rfl) rfl), km_X8_still, ki_X8, ⟨by decide +kernel, by decide +kernel, by decide +kernel⟩, by decide +kernel⟩, jgw_of (jtb_6 (i := 45) rfl) rfl, jgw_of (jtb_6 (i := 46) rfl) rfl⟩
theorem kl_L_69 : jLkV RL 69 eX8_line 3 := ⟨⟨Or.inl (jgw_of (jtb_6 (i := 57) rfl) rfl), km_X8_line, ki_X8, ⟨by decide +kernel, by decide +kernel, by decide +kernel⟩, by decide +kernel⟩, jgw_of (jtb_6 (i := 58) rfl) rfl, jgw_of (jtb_6 (i := 59) rfl) rfl⟩
theorem kl_X8_160 : jLkS RX8 160 eX8_isLine 1 := ⟨⟨Or.inl (jgw_of (jtb_6 (i := 61) rfl) rfl), km_X8_isLine, ki_X8, ⟨by decide +kernel, by decide +kernel, by decide +kernel⟩, by decide +kernel⟩, jgw_of (jtb_6 (i := 62) rfl) rfl⟩
theorem kl_L_73 : jLkV RL 73 eX8_put 3 := ⟨⟨Or.inl (jgw_of (jtb_6 (i := 67) rfl) rfl), km_X8_put, ki_X8, ⟨by decide +kernel, by decide +kernel, by decide +kernel⟩, by decide +kernel⟩, jgw_of (jtb_6 (i := 68) rfl) rfl, jgw_of (jtb_6 (i := 69) rfl) rfl⟩
theorem kl_L_77 : jLkV RL 77 eX8_copy 5 := ⟨⟨Or.inl (jgw_of (jtb_6 (i := 73) rfl) rfl), km_X8_copy, ki_X8, ⟨by decide +kernel, by decide +kernel, by decide +kernel⟩, by decide +kernel⟩, jgw_of (jtb_6 (i := 74) rfl) rfl, jgw_of (jtb_6 (i := 75) rfl) rfl⟩
theorem kl_L_81 : jLkV RL 81 eX8_ground 2 := ⟨⟨Or.inl (jgw_of (jtb_6 (i := 77) rfl) rfl), km_X8_ground, ki_X8, ⟨by decide +kernel, by decide +kernel, by decide +kernel⟩, by decide +kernel⟩, jgw_of (jtb_6 (i := 78) rfl) rfl, jgw_of (jtb_6 (i := 79) rfl) rfl⟩
theorem kl_X8_168 : jLkS RX8 168 eX8_isGround 1 := ⟨⟨Or.inl (jgw_of (jtb_6 (i := 81) rfl) rfl), km_X8_isGround, ki_X8, ⟨by decide +kernel, by decide +kernel, by decide +kernel⟩, by decide +kernel⟩, jgw_of (jtb_6 (i := 82) rfl) rfl⟩
theorem kl_X8_171 : jLkV RX8 171 eX8_groundAt 2 := ⟨⟨Or.inl (jgw_of (jtb_6 (i := 84) rfl) rfl), km_X8_groundAt, ki_X8, ⟨by decide +kernel, by decide +kernel, by decide +kernel⟩, by decide +kernel⟩, jgw_of (jtb_6 (i := 86) rfl) rfl, jgw_s (i := 84) (n := 37) (by decide +kernel)⟩
theorem kl_L_85 : jLkV RL 85 eX8_ask 2 := ⟨⟨Or.inl (jgw_of (jtb_6 (i := 88) rfl) rfl), km_X8_ask, ki_X8, ⟨by decide +kernel, by decide +kernel, by decide +kernel⟩, by decide +kernel⟩, jgw_of (jtb_6 (i := 89) rfl) rfl, jgw_of (jtb_6 (i := 90) rfl) rfl⟩
theorem kl_X8_177 : jLkV RX8 177 eX8_questionOf 2 := ⟨⟨Or.inl (jgw_of (jtb_6 (i := 92) rfl) rfl), km_X8_questionOf, ki_X8, ⟨by decide +kernel, by decide +kernel, by decide +kernel⟩, by decide +kernel⟩, jgw_of (jtb_6 (i := 94) rfl) rfl, jgw_s (i := 85) (n := 37) (by decide +kernel)⟩
theorem kl_X8_174 : jLkS RX8 174 eX8_beside 2 := ⟨⟨Or.inl (jgw_of (jtb_6 (i := 96) rfl) rfl), km_X8_beside, ki_X8, ⟨by decide +kernel, by decide +kernel, by decide +kernel⟩, by decide +kernel⟩, jgw_of (jtb_6 (i := 97) rfl) rfl⟩
theorem kl_L_89 : jLkV RL 89 eX8_feed 3 := ⟨⟨Or.inl (jgw_of (jtb_6 (i := 99) rfl) rfl), km_X8_feed, ki_X8, ⟨by decide +kernel, by decide +kernel, by decide +kernel⟩, by decide +kernel⟩, jgw_of (jtb_6 (i := 100) rfl) rfl, jgw_of (jtb_6 (i := 101) rfl) rfl⟩
theorem kl_L_93 : jLkV RL 93 eX8_trim 1 := ⟨⟨Or.inl (jgw_of (jtb_6 (i := 103) rfl) rfl), km_X8_trim, ki_X8, ⟨by decide +kernel, by decide +kernel, by decide +kernel⟩, by decide +kernel⟩, jgw_of (jtb_6 (i := 104) rfl) rfl, jgw_of (jtb_6 (i := 105) rfl) rfl⟩
theorem kl_L_97 : jLkV RL 97 eX8_text 1 := ⟨⟨Or.inl (jgw_of (jtb_6 (i := 107) rfl) rfl), km_X8_text, ki_X8, ⟨by decide +kernel, by decide +kernel, by decide +kernel⟩, by decide +kernel⟩, jgw_of (jtb_6 (i := 108) rfl) rfl, jgw_of (jtb_6 (i := 109) rfl) rfl⟩
theorem kl_X8_270 : jLkV RX8 270 eX8_parse 0 := ⟨⟨Or.inl (jgw_of (jtb_6 (i := 112) rfl) rfl), km_X8_parse, ki_X8, ⟨by decide +kernel, by decide +kernel, by decide +kernel⟩, by decide +kernel⟩, jgw_of (jtb_6 (i := 114) rfl) rfl, jgw_s (i := 86) (n := 37) (by decide +kernel)⟩
theorem kl_X8_262 : jLkV RX8 262 eX8_textAt 1 := ⟨⟨Or.inl (jgw_of (jtb_6 (i := 116) rfl) rfl), km_X8_textAt, ki_X8, ⟨by decide +kernel, by decide +kernel, by decide +kernel⟩, by decide +kernel⟩, jgw_of (jtb_6 (i := 118) rfl) rfl, jgw_s (i := 87) (n := 37) (by decide +kernel)⟩
theorem kl_X8_215 : jLkV RX8 215 eX8_next 0 := ⟨⟨Or.inl (jgw_of (jtb_6 (i := 120) rfl) rfl), km_X8_next, ki_X8, ⟨by decide +kernel, by decide +kernel, by decide +kernel⟩, by decide +kernel⟩, jgw_of (jtb_6 (i := 122) rfl) rfl, jgw_s (i := 88) (n := 37) (by decide +kernel)⟩
theorem kl_X8_199 : jLkV RX8 199 eX8_isLetter 1 := ⟨⟨Or.inl (jgw_of (jtb_6 (i := 124) rfl) rfl), km_X8_isLetter, ki_X8, ⟨by decide +kernel, by decide +kernel, by decide +kernel⟩, by decide +kernel⟩, jgw_of (jtb_6 (i := 126) rfl) rfl, jgw_s (i := 89) (n := 37) (by decide +kernel)⟩
theorem kl_X8_205 : jLkV RX8 205 eX8_isDigit 1 := ⟨⟨Or.inl (jgw_of (jtb_6 (i := 130) rfl) rfl), km_X8_isDigit, ki_X8, ⟨by decide +kernel, by decide +kernel, by decide +kernel⟩, by decide +kernel⟩, jgw_of (jtb_6 (i := 132) rfl) rfl, jgw_s (i := 90) (n := 37) (by decide +kernel)⟩
theorem kl_X8_265 : jLkV RX8 265 eX8_key 0 := ⟨⟨Or.inl (jgw_of (jtb_6 (i := 135) rfl) rfl), km_X8_key, ki_X8, ⟨by decide +kernel, by decide +kernel, by decide +kernel⟩, by decide +kernel⟩, jgw_of (jtb_6 (i := 137) rfl) rfl, jgw_s (i := 91) (n := 37) (by decide +kernel)⟩
theorem kl_X8_211 : jLkV RX8 211 eX8_isWordAt 4 := ⟨⟨Or.inl (jgw_of (jtb_6 (i := 139) rfl) rfl), km_X8_isWordAt, ki_X8, ⟨by decide +kernel, by decide +kernel, by decide +kernel⟩, by decide +kernel⟩, jgw_of (jtb_6 (i := 141) rfl) rfl, jgw_s (i := 92) (n := 37) (by decide +kernel)⟩
theorem kl_X8_259 : jLkV RX8 259 eX8_either 1 := ⟨⟨Or.inl (jgw_of (jtb_6 (i := 143) rfl) rfl), km_X8_either, ki_X8, ⟨by decide +kernel, by decide +kernel, by decide +kernel⟩, by decide +kernel⟩, jgw_of (jtb_6 (i := 145) rfl) rfl, jgw_s (i := 93) (n := 37) (by decide +kernel)⟩
theorem kl_X8_224 : jLkV RX8 224 eX8_both 1 := ⟨⟨Or.inl (jgw_of (jtb_6 (i := 147) rfl) rfl), km_X8_both, ki_X8, ⟨by decide +kernel, by decide +kernel, by decide +kernel⟩, by decide +kernel⟩, jgw_of (jtb_6 (i := 149) rfl) rfl, jgw_s (i := 94) (n := 37) (by decide +kernel)⟩
theorem kl_X8_234 : jLkV RX8 234 eX8_test 1 := ⟨⟨Or.inl (jgw_of (jtb_6 (i := 151) rfl) rfl), km_X8_test, ki_X8, ⟨by decide +kernel, by decide +kernel, by decide +kernel⟩, by decide +kernel⟩, jgw_of (jtb_6 (i := 153) rfl) rfl, jgw_s (i := 95) (n := 37) (by decide +kernel)⟩
theorem kl_X8_237 : jLkV RX8 237 eX8_sum 1 := ⟨⟨Or.inl (jgw_of (jtb_6 (i := 155) rfl) rfl), km_X8_sum, ki_X8, ⟨by decide +kernel, by decide +kernel, by decide +kernel⟩, by decide +kernel⟩, jgw_of (jtb_6 (i := 157) rfl) rfl, jgw_s (i := 96) (n := 37) (by decide +kernel)⟩
theorem kl_X8_240 : jLkV RX8 240 eX8_term 1 := ⟨⟨Or.inl (jgw_of (jtb_6 (i := 159) rfl) rfl), km_X8_term, ki_X8, ⟨by decide +kernel, by decide +kernel, by decide +kernel⟩, by decide +kernel⟩, jgw_of (jtb_6 (i := 161) rfl) rfl, jgw_s (i := 97) (n := 37) (by decide +kernel)⟩
theorem kl_X8_243 : jLkV RX8 243 eX8_part0 1 := ⟨⟨Or.inl (jgw_of (jtb_6 (i := 163) rfl) rfl), km_X8_part0, ki_X8, ⟨by decide +kernel, by decide +kernel, by decide +kernel⟩, by decide +kernel⟩, jgw_of (jtb_6 (i := 165) rfl) rfl, jgw_s (i := 98) (n := 37) (by decide +kernel)⟩
theorem kl_X8_230 : jLkV RX8 230 eX8_step 2 := ⟨⟨Or.inl (jgw_of (jtb_6 (i := 167) rfl) rfl), km_X8_step, ki_X8, ⟨by decide +kernel, by decide +kernel, by decide +kernel⟩, by decide +kernel⟩, jgw_of (jtb_6 (i := 169) rfl) rfl, jgw_s (i := 99) (n := 37) (by decide +kernel)⟩
theorem kl_X8_249 : jLkS RX8 249 eX8_isName 2 := ⟨⟨Or.inl (jgw_of (jtb_6 (i := 171) rfl) rfl), km_X8_isName, ki_X8, ⟨by decide +kernel, by decide +kernel, by decide +kernel⟩, by decide +kernel⟩, jgw_of (jtb_6 (i := 172) rfl) rfl⟩
theorem kl_X8_227 : jLkV RX8 227 eX8_isSign 1 := ⟨⟨Or.inl (jgw_of (jtb_6 (i := 174) rfl) rfl), km_X8_isSign, ki_X8, ⟨by decide +kernel, by decide +kernel, by decide +kernel⟩, by decide +kernel⟩, jgw_of (jtb_6 (i := 176) rfl) rfl, jgw_s (i := 100) (n := 37) (by decide +kernel)⟩
theorem kl_L_101 : jLkV RL 101 eX8_of 2 := ⟨⟨Or.inl (jgw_of (jtb_6 (i := 178) rfl) rfl), km_X8_of, ki_X8, ⟨by decide +kernel, by decide +kernel, by decide +kernel⟩, by decide +kernel⟩, jgw_of (jtb_6 (i := 179) rfl) rfl, jgw_of (jtb_6 (i := 180) rfl) rfl⟩
theorem kl_X8_273 : jLkV RX8 273 eX8_isText 1 := ⟨⟨Or.inl (jgw_of (jtb_6 (i := 182) rfl) rfl), km_X8_isText, ki_X8, ⟨by decide +kernel, by decide +kernel, by decide +kernel⟩, by decide +kernel⟩, jgw_of (jtb_6 (i := 184) rfl) rfl, jgw_s (i := 101) (n := 37) (by decide +kernel)⟩
theorem kl_L_105 : jLkV RL 105 eX8_why 1 := ⟨⟨Or.inl (jgw_of (jtb_6 (i := 187) rfl) rfl), km_X8_why, ki_X8, ⟨by decide +kernel, by decide +kernel, by decide +kernel⟩, by decide +kernel⟩, jgw_of (jtb_6 (i := 188) rfl) rfl, jgw_of (jtb_6 (i := 189) rfl) rfl⟩
theorem kl_X8_280 : jLkV RX8 280 eX8_counts 1 := ⟨⟨Or.inl (jgw_of (jtb_6 (i := 192) rfl) rfl), km_X8_counts, ki_X8, ⟨by decide +kernel, by decide +kernel, by decide +kernel⟩, by decide +kernel⟩, jgw_of (jtb_6 (i := 194) rfl) rfl, jgw_s (i := 102) (n := 37) (by decide +kernel)⟩
theorem kl_L_109 : jLkV RL 109 eX8_gives 5 := ⟨⟨Or.inl (jgw_of (jtb_6 (i := 196) rfl) rfl), km_X8_gives, ki_X8, ⟨by decide +kernel, by decide +kernel, by decide +kernel⟩, by decide +kernel⟩, jgw_of (jtb_6 (i := 197) rfl) rfl, jgw_of (jtb_6 (i := 198) rfl) rfl⟩
theorem kl_X8_287 : jLkV RX8 287 eX8_nameAll 5 := ⟨⟨Or.inl (jgw_of (jtb_6 (i := 200) rfl) rfl), km_X8_nameAll, ki_X8, ⟨by decide +kernel, by decide +kernel, by decide +kernel⟩, by decide +kernel⟩, jgw_of (jtb_6 (i := 202) rfl) rfl, jgw_s (i := 103) (n := 37) (by decide +kernel)⟩
theorem kl_X8_291 : jLkV RX8 291 eX8_worked 1 := ⟨⟨Or.inl (jgw_of (jtb_6 (i := 204) rfl) rfl), km_X8_worked, ki_X8, ⟨by decide +kernel, by decide +kernel, by decide +kernel⟩, by decide +kernel⟩, jgw_of (jtb_6 (i := 206) rfl) rfl, jgw_s (i := 104) (n := 37) (by decide +kernel)⟩
theorem kl_X8_283 : jLkS RX8 283 eX8_joined 3 := ⟨⟨Or.inl (jgw_of (jtb_6 (i := 208) rfl) rfl), km_X8_joined, ki_X8, ⟨by decide +kernel, by decide +kernel, by decide +kernel⟩, by decide +kernel⟩, jgw_of (jtb_6 (i := 209) rfl) rfl⟩
theorem kl_L_113 : jLkV RL 113 eX8_habit 1 := ⟨⟨Or.inl (jgw_of (jtb_6 (i := 211) rfl) rfl), km_X8_habit, ki_X8, ⟨by decide +kernel, by decide +kernel, by decide +kernel⟩, by decide +kernel⟩, jgw_of (jtb_6 (i := 212) rfl) rfl, jgw_of (jtb_6 (i := 213) rfl) rfl⟩
theorem kl_L_117 : jLkV RL 117 eX8_seen 2 := ⟨⟨Or.inl (jgw_of (jtb_6 (i := 215) rfl) rfl), km_X8_seen, ki_X8, ⟨by decide +kernel, by decide +kernel, by decide +kernel⟩, by decide +kernel⟩, jgw_of (jtb_6 (i := 216) rfl) rfl, jgw_of (jtb_6 (i := 217) rfl) rfl⟩
theorem kl_X8_309 : jLkV RX8 309 eX8_see 1 := ⟨⟨Or.inl (jgw_of (jtb_6 (i := 219) rfl) rfl), km_X8_see, ki_X8, ⟨by decide +kernel, by decide +kernel, by decide +kernel⟩, by decide +kernel⟩, jgw_of (jtb_6 (i := 221) rfl) rfl, jgw_s (i := 105) (n := 37) (by decide +kernel)⟩
theorem kl_X8_301 : jLkV RX8 301 eX8_findGround 1 := ⟨⟨Or.inl (jgw_of (jtb_6 (i := 223) rfl) rfl), km_X8_findGround, ki_X8, ⟨by decide +kernel, by decide +kernel, by decide +kernel⟩, by decide +kernel⟩, jgw_of (jtb_6 (i := 225) rfl) rfl, jgw_s (i := 106) (n := 37) (by decide +kernel)⟩
theorem kl_X8_305 : jLkV RX8 305 eX8_findSeen 1 := ⟨⟨Or.inl (jgw_of (jtb_6 (i := 227) rfl) rfl), km_X8_findSeen, ki_X8, ⟨by decide +kernel, by decide +kernel, by decide +kernel⟩, by decide +kernel⟩, jgw_of (jtb_6 (i := 229) rfl) rfl, jgw_s (i := 107) (n := 37) (by decide +kernel)⟩
theorem kl_X8_298 : jLkV RX8 298 eX8_isKept 4 := ⟨⟨Or.inl (jgw_of (jtb_6 (i := 231) rfl) rfl), km_X8_isKept, ki_X8, ⟨by decide +kernel, by decide +kernel, by decide +kernel⟩, by decide +kernel⟩, jgw_of (jtb_6 (i := 233) rfl) rfl, jgw_s (i := 108) (n := 37) (by decide +kernel)⟩
theorem kl_X8_294 : jLkV RX8 294 eX8_isSeenAt 5 := ⟨⟨Or.inl (jgw_of (jtb_6 (i := 235) rfl) rfl), km_X8_isSeenAt, ki_X8, ⟨by decide +kernel, by decide +kernel, by decide +kernel⟩, by decide +kernel⟩, jgw_of (jtb_6 (i := 237) rfl) rfl, jgw_s (i := 109) (n := 37) (by decide +kernel)⟩
theorem kl_L_121 : jLkV RL 121 eX8_beast 2 := ⟨⟨Or.inl (jgw_of (jtb_6 (i := 239) rfl) rfl), km_X8_beast, ki_X8, ⟨by decide +kernel, by decide +kernel, by decide +kernel⟩, by decide +kernel⟩, jgw_of (jtb_7 (i := 0) rfl) rfl, jgw_of (jtb_7 (i := 1) rfl) rfl⟩
theorem kl_X8_314 : jLkV RX8 314 eX8_fill 1 := ⟨⟨Or.inl (jgw_of (jtb_7 (i := 4) rfl) rfl), km_X8_fill, ki_X8, ⟨by decide +kernel, by decide +kernel, by decide +kernel⟩, by decide +kernel⟩, jgw_of (jtb_7 (i := 6) rfl) rfl, jgw_s (i := 110) (n := 37) (by decide +kernel)⟩
theorem kl_L_125 : jLkV RL 125 eX8_hide 3 := ⟨⟨Or.inl (jgw_of (jtb_7 (i := 8) rfl) rfl), km_X8_hide, ki_X8, ⟨by decide +kernel, by decide +kernel, by decide +kernel⟩, by decide +kernel⟩, jgw_of (jtb_7 (i := 9) rfl) rfl, jgw_of (jtb_7 (i := 10) rfl) rfl⟩
theorem kl_X8_338 : jLkS RX8 338 eX8_toldGroups 1 := ⟨⟨Or.inl (jgw_of (jtb_7 (i := 12) rfl) rfl), km_X8_toldGroups, ki_X8, ⟨by decide +kernel, by decide +kernel, by decide +kernel⟩, by decide +kernel⟩, jgw_of (jtb_7 (i := 13) rfl) rfl⟩
theorem kl_X8_344 : jLkV RX8 344 eX8_leastBy 4 := ⟨⟨Or.inl (jgw_of (jtb_7 (i := 16) rfl) rfl), km_X8_leastBy, ki_X8, ⟨by decide +kernel, by decide +kernel, by decide +kernel⟩, by decide +kernel⟩, jgw_of (jtb_7 (i := 18) rfl) rfl, jgw_s (i := 111) (n := 37) (by decide +kernel)⟩
theorem kl_X8_328 : jLkV RX8 328 eX8_search 3 := ⟨⟨Or.inl (jgw_of (jtb_7 (i := 20) rfl) rfl), km_X8_search, ki_X8, ⟨by decide +kernel, by decide +kernel, by decide +kernel⟩, by decide +kernel⟩, jgw_of (jtb_7 (i := 22) rfl) rfl, jgw_s (i := 112) (n := 37) (by decide +kernel)⟩
theorem kl_X8_341 : jLkV RX8 341 eX8_missed 0 := ⟨⟨Or.inl (jgw_of (jtb_7 (i := 24) rfl) rfl), km_X8_missed, ki_X8, ⟨by decide +kernel, by decide +kernel, by decide +kernel⟩, by decide +kernel⟩, jgw_of (jtb_7 (i := 26) rfl) rfl, jgw_s (i := 113) (n := 37) (by decide +kernel)⟩
theorem kl_L_129 : jLkV RL 129 eX8_misses 3 := ⟨⟨Or.inl (jgw_of (jtb_7 (i := 28) rfl) rfl), km_X8_misses, ki_X8, ⟨by decide +kernel, by decide +kernel, by decide +kernel⟩, by decide +kernel⟩, jgw_of (jtb_7 (i := 29) rfl) rfl, jgw_of (jtb_7 (i := 30) rfl) rfl⟩
theorem kl_L_133 : jLkV RL 133 eX8_half 2 := ⟨⟨Or.inl (jgw_of (jtb_7 (i := 32) rfl) rfl), km_X8_half, ki_X8, ⟨by decide +kernel, by decide +kernel, by decide +kernel⟩, by decide +kernel⟩, jgw_of (jtb_7 (i := 33) rfl) rfl, jgw_of (jtb_7 (i := 34) rfl) rfl⟩
theorem kl_L_137 : jLkV RL 137 eX8_learn 2 := ⟨⟨Or.inl (jgw_of (jtb_7 (i := 36) rfl) rfl), km_X8_learn, ki_X8, ⟨by decide +kernel, by decide +kernel, by decide +kernel⟩, by decide +kernel⟩, jgw_of (jtb_7 (i := 37) rfl) rfl, jgw_of (jtb_7 (i := 38) rfl) rfl⟩
theorem kl_L_141 : jLkV RL 141 eX8_apart 1 := ⟨⟨Or.inl (jgw_of (jtb_7 (i := 40) rfl) rfl), km_X8_apart, ki_X8, ⟨by decide +kernel, by decide +kernel, by decide +kernel⟩, by decide +kernel⟩, jgw_of (jtb_7 (i := 41) rfl) rfl, jgw_of (jtb_7 (i := 42) rfl) rfl⟩
theorem kl_X8_350 : jLkV RX8 350 eX8_partsAll 1 := ⟨⟨Or.inl (jgw_of (jtb_7 (i := 45) rfl) rfl), km_X8_partsAll, ki_X8, ⟨by decide +kernel, by decide +kernel, by decide +kernel⟩, by decide +kernel⟩, jgw_of (jtb_7 (i := 47) rfl) rfl, jgw_s (i := 114) (n := 37) (by decide +kernel)⟩
theorem kl_L_145 : jLkV RL 145 eX8_fewest 0 := ⟨⟨Or.inl (jgw_of (jtb_7 (i := 49) rfl) rfl), km_X8_fewest, ki_X8, ⟨by decide +kernel, by decide +kernel, by decide +kernel⟩, by decide +kernel⟩, jgw_of (jtb_7 (i := 50) rfl) rfl, jgw_of (jtb_7 (i := 51) rfl) rfl⟩
theorem kl_X8_353 : jLkS RX8 353 eX8_ones 1 := ⟨⟨Or.inl (jgw_of (jtb_7 (i := 53) rfl) rfl), km_X8_ones, ki_X8, ⟨by decide +kernel, by decide +kernel, by decide +kernel⟩, by decide +kernel⟩, jgw_of (jtb_7 (i := 54) rfl) rfl⟩
theorem kl_L_149 : jLkV RL 149 eX8_watch 1 := ⟨⟨Or.inl (jgw_of (jtb_7 (i := 56) rfl) rfl), km_X8_watch, ki_X8, ⟨by decide +kernel, by decide +kernel, by decide +kernel⟩, by decide +kernel⟩, jgw_of (jtb_7 (i := 57) rfl) rfl, jgw_of (jtb_7 (i := 58) rfl) rfl⟩
theorem kl_L_153 : jLkV RL 153 eX8_alike 2 := ⟨⟨Or.inl (jgw_of (jtb_7 (i := 61) rfl) rfl), km_X8_alike, ki_X8, ⟨by decide +kernel, by decide +kernel, by decide +kernel⟩, by decide +kernel⟩, jgw_of (jtb_7 (i := 62) rfl) rfl, jgw_of (jtb_7 (i := 63) rfl) rfl⟩
theorem kl_X8_360 : jLkV RX8 360 eX8_rowsOf 2 := ⟨⟨Or.inl (jgw_of (jtb_7 (i := 66) rfl) rfl), km_X8_rowsOf, ki_X8, ⟨by decide +kernel, by decide +kernel, by decide +kernel⟩, by decide +kernel⟩, jgw_of (jtb_7 (i := 68) rfl) rfl, jgw_s (i := 115) (n := 37) (by decide +kernel)⟩
theorem kl_L_157 : jLkV RL 157 eX8_kinds 1 := ⟨⟨Or.inl (jgw_of (jtb_7 (i := 70) rfl) rfl), km_X8_kinds, ki_X8, ⟨by decide +kernel, by decide +kernel, by decide +kernel⟩, by decide +kernel⟩, jgw_of (jtb_7 (i := 71) rfl) rfl, jgw_of (jtb_7 (i := 72) rfl) rfl⟩
theorem kl_X8_363 : jLkV RX8 363 eX8_kindsOf 1 := ⟨⟨Or.inl (jgw_of (jtb_7 (i := 74) rfl) rfl), km_X8_kindsOf, ki_X8, ⟨by decide +kernel, by decide +kernel, by decide +kernel⟩, by decide +kernel⟩, jgw_of (jtb_7 (i := 76) rfl) rfl, jgw_s (i := 116) (n := 37) (by decide +kernel)⟩
theorem kl_L_161 : jLkV RL 161 eX8_parts 0 := ⟨⟨Or.inl (jgw_of (jtb_7 (i := 78) rfl) rfl), km_X8_parts, ki_X8, ⟨by decide +kernel, by decide +kernel, by decide +kernel⟩, by decide +kernel⟩, jgw_of (jtb_7 (i := 79) rfl) rfl, jgw_of (jtb_7 (i := 80) rfl) rfl⟩
theorem kl_L_165 : jLkV RL 165 eX8_tell 1 := ⟨⟨Or.inl (jgw_of (jtb_7 (i := 82) rfl) rfl), km_X8_tell, ki_X8, ⟨by decide +kernel, by decide +kernel, by decide +kernel⟩, by decide +kernel⟩, jgw_of (jtb_7 (i := 83) rfl) rfl, jgw_of (jtb_7 (i := 84) rfl) rfl⟩
theorem kl_L_169 : jLkV RL 169 eX8_check 1 := ⟨⟨Or.inl (jgw_of (jtb_7 (i := 86) rfl) rfl), km_X8_check, ki_X8, ⟨by decide +kernel, by decide +kernel, by decide +kernel⟩, by decide +kernel⟩, jgw_of (jtb_7 (i := 87) rfl) rfl, jgw_of (jtb_7 (i := 88) rfl) rfl⟩
theorem kl_X8_374 : jLkV RX8 374 eX8_sizes 0 := ⟨⟨Or.inl (jgw_of (jtb_7 (i := 91) rfl) rfl), km_X8_sizes, ki_X8, ⟨by decide +kernel, by decide +kernel, by decide +kernel⟩, by decide +kernel⟩, jgw_of (jtb_7 (i := 93) rfl) rfl, jgw_s (i := 117) (n := 37) (by decide +kernel)⟩
theorem kl_L_173 : jLkV RL 173 eX8_keep 0 := ⟨⟨Or.inl (jgw_of (jtb_7 (i := 95) rfl) rfl), km_X8_keep, ki_X8, ⟨by decide +kernel, by decide +kernel, by decide +kernel⟩, by decide +kernel⟩, jgw_of (jtb_7 (i := 96) rfl) rfl, jgw_of (jtb_7 (i := 97) rfl) rfl⟩
theorem kl_L_177 : jLkV RL 177 eX8_back 0 := ⟨⟨Or.inl (jgw_of (jtb_7 (i := 99) rfl) rfl), km_X8_back, ki_X8, ⟨by decide +kernel, by decide +kernel, by decide +kernel⟩, by decide +kernel⟩, jgw_of (jtb_7 (i := 100) rfl) rfl, jgw_of (jtb_7 (i := 101) rfl) rfl⟩
theorem kl_L_181 : jLkV RL 181 eX8_count 1 := ⟨⟨Or.inl (jgw_of (jtb_7 (i := 103) rfl) rfl), km_X8_count, ki_X8, ⟨by decide +kernel, by decide +kernel, by decide +kernel⟩, by decide +kernel⟩, jgw_of (jtb_7 (i := 104) rfl) rfl, jgw_of (jtb_7 (i := 105) rfl) rfl⟩
theorem kl_X8_377 : jLkV RX8 377 eX8_partsOf 1 := ⟨⟨Or.inl (jgw_of (jtb_7 (i := 107) rfl) rfl), km_X8_partsOf, ki_X8, ⟨by decide +kernel, by decide +kernel, by decide +kernel⟩, by decide +kernel⟩, jgw_of (jtb_7 (i := 109) rfl) rfl, jgw_s (i := 118) (n := 37) (by decide +kernel)⟩
theorem kl_X8_380 : jLkV RX8 380 eX8_lines 0 := ⟨⟨Or.inl (jgw_of (jtb_7 (i := 111) rfl) rfl), km_X8_lines, ki_X8, ⟨by decide +kernel, by decide +kernel, by decide +kernel⟩, by decide +kernel⟩, jgw_of (jtb_7 (i := 113) rfl) rfl, jgw_s (i := 119) (n := 37) (by decide +kernel)⟩
theorem ko_X7_1 : Cond.methodLink RX7 1 Lib.objectInit ∈ jgw := jgw_of (jtb_1 (i := 23) rfl) rfl
theorem ko_X4_3 : Cond.methodLink RX4 3 Lib.objectInit ∈ jgw := jgw_of (jtb_1 (i := 31) rfl) rfl
theorem ko_X1_3 : Cond.methodLink RX1 3 Lib.objectInit ∈ jgw := jgw_of (jtb_1 (i := 117) rfl) rfl
theorem ko_X5_3 : Cond.methodLink RX5 3 Lib.objectInit ∈ jgw := jgw_of (jtb_1 (i := 144) rfl) rfl
theorem ko_X6_3 : Cond.methodLink RX6 3 Lib.objectInit ∈ jgw := jgw_of (jtb_1 (i := 200) rfl) rfl
theorem ko_X0_3 : Cond.methodLink RX0 3 Lib.objectInit ∈ jgw := jgw_of (jtb_1 (i := 229) rfl) rfl
theorem ko_X3_5 : Cond.methodLink RX3 5 Lib.objectInit ∈ jgw := jgw_of (jtb_2 (i := 30) rfl) rfl
theorem ko_X2_3 : Cond.methodLink RX2 3 Lib.objectInit ∈ jgw := jgw_of (jtb_2 (i := 67) rfl) rfl
theorem kx_X4_77 : Cond.methodLink RX4 77 Lib.Math.min.name ∈ jgw := jgw_of (jtb_2 (i := 145) rfl) rfl
theorem kx_X7_355 : Cond.methodLink RX7 355 Lib.Math.min.name ∈ jgw := jgw_of (jtb_2 (i := 206) rfl) rfl
theorem kx_X7_183 : Cond.methodLink RX7 183 Lib.Math.max.name ∈ jgw := jgw_of (jtb_2 (i := 207) rfl) rfl
theorem kx_X4_105 : Cond.methodLink RX4 105 Lib.Math.max.name ∈ jgw := jgw_of (jtb_2 (i := 226) rfl) rfl
theorem kx_X4_112 : Cond.methodLink RX4 112 Lib.Math.abs.name ∈ jgw := jgw_of (jtb_3 (i := 5) rfl) rfl
theorem ky_X4_68 : Cond.methodLink RX4 68 arraycopyName ∈ jgw := jgw_of (jtb_3 (i := 16) rfl) rfl
theorem kx_X7_178 : Cond.methodLink RX7 178 Lib.Math.abs.name ∈ jgw := jgw_of (jtb_3 (i := 19) rfl) rfl
theorem ky_X7_207 : Cond.methodLink RX7 207 arraycopyName ∈ jgw := jgw_of (jtb_3 (i := 43) rfl) rfl
theorem kx_X1_54 : Cond.methodLink RX1 54 Lib.Math.abs.name ∈ jgw := jgw_of (jtb_3 (i := 81) rfl) rfl
theorem kx_X5_80 : Cond.methodLink RX5 80 Lib.Math.min.name ∈ jgw := jgw_of (jtb_3 (i := 118) rfl) rfl
theorem kx_J1_92 : Cond.methodLink RJ1 92 Lib.Math.max.name ∈ jgw := jgw_of (jtb_3 (i := 226) rfl) rfl
theorem kx_J1_38 : Cond.methodLink RJ1 38 Lib.Math.min.name ∈ jgw := jgw_of (jtb_3 (i := 227) rfl) rfl
theorem ky_X6_43 : Cond.methodLink RX6 43 arraycopyName ∈ jgw := jgw_of (jtb_4 (i := 45) rfl) rfl
theorem kx_X0_57 : Cond.methodLink RX0 57 Lib.Math.abs.name ∈ jgw := jgw_of (jtb_4 (i := 97) rfl) rfl
theorem kx_X2_36 : Cond.methodLink RX2 36 Lib.Math.min.name ∈ jgw := jgw_of (jtb_5 (i := 7) rfl) rfl
theorem ko_X8_1 : Cond.methodLink RX8 1 Lib.objectInit ∈ jgw := jgw_of (jtb_5 (i := 50) rfl) rfl
theorem ko_i : Cond.instanceMethod Lib.objectInit ∈ jgw := jgw_of (jtb_1 (i := 24) rfl) rfl
theorem ko_c : Cond.code Lib.objectInit ⟨#[0xb1]⟩ 1 none ∈ jgw := jgw_of (jtb_1 (i := 25) rfl) rfl
theorem kx_max_s : Cond.static Lib.Math.max.name ∈ jgw := jgw_of (jtb_2 (i := 208) rfl) rfl
theorem kx_max_c : Cond.code Lib.Math.max.name Lib.Math.max.code 2 (some .int) ∈ jgw := jgw_of (jtb_2 (i := 209) rfl) rfl
theorem kx_min_s : Cond.static Lib.Math.min.name ∈ jgw := jgw_of (jtb_2 (i := 146) rfl) rfl
theorem kx_min_c : Cond.code Lib.Math.min.name Lib.Math.min.code 2 (some .int) ∈ jgw := jgw_of (jtb_2 (i := 147) rfl) rfl
theorem kx_abs_s : Cond.static Lib.Math.abs.name ∈ jgw := jgw_of (jtb_3 (i := 6) rfl) rfl
theorem kx_abs_c : Cond.code Lib.Math.abs.name Lib.Math.abs.code 1 (some .int) ∈ jgw := jgw_of (jtb_3 (i := 7) rfl) rfl
theorem kx_i : Cond.initialized "java/lang/Math" ∈ jgw := jgw_of (jtb_1 (i := 10) rfl) rfl
theorem ky_n : Cond.native arraycopyName ∈ jgw := jgw_of (jtb_3 (i := 18) rfl) rfl
theorem ky_s : Cond.static arraycopyName ∈ jgw := jgw_of (jtb_3 (i := 17) rfl) rfl
theorem ky_i : Cond.initialized "java/lang/System" ∈ jgw := jgw_of (jtb_1 (i := 11) rfl) rfl
theorem ka_int : Cond.arrayClass .int ∈ jgw := jgw_of (jtb_1 (i := 111) rfl) rfl
theorem ka_byte : Cond.arrayClass .byte ∈ jgw := jgw_of (jtb_1 (i := 194) rfl) rfl
theorem ka_boolean : Cond.arrayClass .boolean ∈ jgw := jgw_of (jtb_2 (i := 24) rfl) rfl
theorem ka_over : Cond.arrayOver (.array .int) ∈ jnw := jnw_of (jtb_1 (i := 119) rfl) rfl
theorem kn_L_7 : jNew RL 7 7 12 (fun j => if (tyX7 j).isReference then .null else .int 0) := ⟨RX7, TX7, tyX7, rfl, inX7, tyX7_ok, jgw_of (jtb_1 (i := 18) rfl) rfl, jgw_of (jtb_1 (i := 19) rfl) rfl, ki_X7, by decide +kernel⟩
theorem kn_X7_7 : jNew RX7 7 4 17 (fun j => if (tyX4 j).isReference then .null else .int 0) := ⟨RX4, TX4, tyX4, rfl, inX4, tyX4_ok, jgw_of (jtb_1 (i := 26) rfl) rfl, jgw_of (jtb_1 (i := 27) rfl) rfl, ki_X4, by decide +kernel⟩
theorem kn_X7_22 : jNew RX7 22 1 5 (fun j => if (tyX1 j).isReference then .null else .int 0) := ⟨RX1, TX1, tyX1, rfl, inX1, tyX1_ok, jgw_of (jtb_1 (i := 112) rfl) rfl, jgw_of (jtb_1 (i := 113) rfl) rfl, ki_X1, by decide +kernel⟩
theorem kn_X1_18 : Cond.classLink RX1 18 "[[I" ∈ jgw := jgw_of (jtb_1 (i := 118) rfl) rfl
theorem kn_X7_29 : jNew RX7 29 5 14 (fun j => if (tyX5 j).isReference then .null else .int 0) := ⟨RX5, TX5, tyX5, rfl, inX5, tyX5_ok, jgw_of (jtb_1 (i := 139) rfl) rfl, jgw_of (jtb_1 (i := 140) rfl) rfl, ki_X5, by decide +kernel⟩
theorem kn_X7_36 : jNew RX7 36 6 6 (fun j => if (tyX6 j).isReference then .null else .int 0) := ⟨RX6, TX6, tyX6, rfl, inX6, tyX6_ok, jgw_of (jtb_1 (i := 195) rfl) rfl, jgw_of (jtb_1 (i := 196) rfl) rfl, ki_X6, by decide +kernel⟩
theorem kn_X6_24 : Cond.classLink RX6 24 "[[I" ∈ jgw := jgw_of (jtb_1 (i := 201) rfl) rfl
theorem kn_X7_43 : jNew RX7 43 0 9 (fun j => if (tyX0 j).isReference then .null else .int 0) := ⟨RX0, TX0, tyX0, rfl, inX0, tyX0_ok, jgw_of (jtb_1 (i := 224) rfl) rfl, jgw_of (jtb_1 (i := 225) rfl) rfl, ki_X0, by decide +kernel⟩
theorem kn_X7_50 : jNew RX7 50 3 8 (fun j => if (tyX3 j).isReference then .null else .int 0) := ⟨RX3, TX3, tyX3, rfl, inX3, tyX3_ok, jgw_of (jtb_2 (i := 25) rfl) rfl, jgw_of (jtb_2 (i := 26) rfl) rfl, ki_X3, by decide +kernel⟩
theorem kn_X3_11 : jNew RX3 11 4 17 (fun j => if (tyX4 j).isReference then .null else .int 0) := ⟨RX4, TX4, tyX4, rfl, inX4, tyX4_ok, jgw_of (jtb_2 (i := 31) rfl) rfl, jgw_of (jtb_1 (i := 27) rfl) rfl, ki_X4, by decide +kernel⟩
theorem kn_X3_18 : jNew RX3 18 0 9 (fun j => if (tyX0 j).isReference then .null else .int 0) := ⟨RX0, TX0, tyX0, rfl, inX0, tyX0_ok, jgw_of (jtb_2 (i := 33) rfl) rfl, jgw_of (jtb_1 (i := 225) rfl) rfl, ki_X0, by decide +kernel⟩
theorem kn_X7_57 : jNew RX7 57 2 4 (fun j => if (tyX2 j).isReference then .null else .int 0) := ⟨RX2, TX2, tyX2, rfl, inX2, tyX2_ok, jgw_of (jtb_2 (i := 62) rfl) rfl, jgw_of (jtb_2 (i := 63) rfl) rfl, ki_X2, by decide +kernel⟩
theorem kn_X2_15 : Cond.classLink RX2 15 "[[I" ∈ jgw := jgw_of (jtb_2 (i := 68) rfl) rfl
theorem kn_L_10 : jNew RL 10 8 37 (fun j => if (tyX8 j).isReference then .null else .int 0) := ⟨RX8, TX8, tyX8, rfl, inX8, tyX8_ok, jgw_of (jtb_5 (i := 45) rfl) rfl, jgw_of (jtb_5 (i := 46) rfl) rfl, ki_X8, by decide +kernel⟩
