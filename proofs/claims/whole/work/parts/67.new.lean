/-! ===== the reference: a new one, walked ===== -/

set_option maxHeartbeats 4000000 in
set_option maxRecDepth 100000 in
theorem c_X9_init (d0 : Nat × Nat) (S : gS) (y : Nat) (h1 : gK S y = 11) (h2 : ∀ p, gX S 11 p y = nI 0) : gCt d0 yX9_init cX9_init 1 none 4 60 13600 [.ref y] S (fun v' S' => v' = none ∧ (∃ b, gRef S' y b M0) ∧ gFr gCk S S') gNo := by
  refine gCt_of (lo := [some (.ref y)]) (by decide +kernel) (Nat.le_of_ble_eq_true rfl) (rfl) ?_
  intro Γ hd G F hini
  subst hd
  have z0 : gNz S y 0 (fun _ => 0) (nI 0) := ⟨⟨h1, fun p _ => h2 p, h2 3⟩, fun g hg => absurd hg (Nat.not_lt_zero g)⟩
  first | refine g_aload_n G dX9_init_0 rfl ?_ | refine g_aload_nN G dX9_init_0 rfl ?_ | refine g_aload_nQ G dX9_init_0 rfl ?_
  refine g_objInit G ml_X9_1 oi_1 oi_2 (by decide) (Nat.le_of_ble_eq_true rfl) dX9_init_1 ?_
  first | refine g_aload_n G dX9_init_4 rfl ?_ | refine g_aload_nN G dX9_init_4 rfl ?_ | refine g_aload_nQ G dX9_init_4 rfl ?_
  refine g_sipush (v := nI 1000) G dX9_init_5 (by decide) ?_
  refine g_new_int (κ := 17 + 32 * (10 + 1)) G ac_int (by first | decide | omega) (rfl) (by omega) (by omega) (by omega) dX9_init_8 (fun q_8 hq_8 => ?_)
  have k_8 := (gFr_M (17 + 32 * (10 + 1)) 1000 hq_8).K z0.1.1 (by decide)
  refine g_putQF (v := some q_8) G fl_X9_9 pu_10_1 (hini.mpr rfl) (k_8) (by first | decide | omega) rfl dX9_init_10 ?_
  have z_10 := gNz_A (f := 1) z0 hq_8 (by decide) (fun g g1 g2 => by
    obtain rfl := (show g = 0 by omega) <;> decide) (N := 1000) rfl (by decide)
  first | refine g_aload_n G dX9_init_13 rfl ?_ | refine g_aload_nN G dX9_init_13 rfl ?_ | refine g_aload_nQ G dX9_init_13 rfl ?_
  refine g_iconst (v := (-1)) G dX9_init_14 (by decide) ?_
  refine g_putI G fl_X9_13 pu_10_3 (z_10.1.1) (by first | decide | omega) rfl dX9_init_15 ?_
  have z_15 := gNz_X (-1) z_10
  first | refine g_aload_n G dX9_init_18 rfl ?_ | refine g_aload_nN G dX9_init_18 rfl ?_ | refine g_aload_nQ G dX9_init_18 rfl ?_
  refine g_sipush (v := nI 2500) G dX9_init_19 (by decide) ?_
  refine g_new_int (κ := 17 + 32 * (10 + 4)) G ac_int (by first | decide | omega) (rfl) (by omega) (by omega) (by omega) dX9_init_22 (fun q_22 hq_22 => ?_)
  have k_22 := (gFr_M (17 + 32 * (10 + 4)) 2500 hq_22).K z_15.1.1 (by decide)
  refine g_putQF (v := some q_22) G fl_X9_17 pu_10_4 (hini.mpr rfl) (k_22) (by first | decide | omega) rfl dX9_init_24 ?_
  have z_24 := gNz_A (f := 4) z_15 hq_22 (by decide) (fun g g1 g2 => by
    obtain rfl | rfl := (show g = 2 ∨ g = 3 by omega) <;> decide) (N := 2500) rfl (by decide)
  first | refine g_aload_n G dX9_init_27 rfl ?_ | refine g_aload_nN G dX9_init_27 rfl ?_ | refine g_aload_nQ G dX9_init_27 rfl ?_
  refine g_bipush (v := nI 8) G dX9_init_28 (by decide) ?_
  refine g_new_int (κ := 17 + 32 * (10 + 7)) G ac_int (by first | decide | omega) (rfl) (by omega) (by omega) (by omega) dX9_init_30 (fun q_30 hq_30 => ?_)
  have k_30 := (gFr_M (17 + 32 * (10 + 7)) 8 hq_30).K z_24.1.1 (by decide)
  refine g_putQF (v := some q_30) G fl_X9_20 pu_10_7 (hini.mpr rfl) (k_30) (by first | decide | omega) rfl dX9_init_32 ?_
  have z_32 := gNz_A (f := 7) z_24 hq_30 (by decide) (fun g g1 g2 => by
    obtain rfl | rfl := (show g = 5 ∨ g = 6 by omega) <;> decide) (N := 8) rfl (by decide)
  first | refine g_aload_n G dX9_init_35 rfl ?_ | refine g_aload_nN G dX9_init_35 rfl ?_ | refine g_aload_nQ G dX9_init_35 rfl ?_
  refine g_bipush (v := nI 12) G dX9_init_36 (by decide) ?_
  refine g_new_int (κ := 17 + 32 * (10 + 9)) G ac_int (by first | decide | omega) (rfl) (by omega) (by omega) (by omega) dX9_init_38 (fun q_38 hq_38 => ?_)
  have k_38 := (gFr_M (17 + 32 * (10 + 9)) 12 hq_38).K z_32.1.1 (by decide)
  refine g_putQF (v := some q_38) G fl_X9_23 pu_10_9 (hini.mpr rfl) (k_38) (by first | decide | omega) rfl dX9_init_40 ?_
  have z_40 := gNz_A (f := 9) z_32 hq_38 (by decide) (fun g g1 g2 => by
    obtain rfl := (show g = 8 by omega) <;> decide) (N := 12) rfl (by decide)
  first | refine g_aload_n G dX9_init_43 rfl ?_ | refine g_aload_nN G dX9_init_43 rfl ?_ | refine g_aload_nQ G dX9_init_43 rfl ?_
  refine g_bipush (v := nI 12) G dX9_init_44 (by decide) ?_
  refine g_new_int (κ := 17 + 32 * (10 + 10)) G ac_int (by first | decide | omega) (rfl) (by omega) (by omega) (by omega) dX9_init_46 (fun q_46 hq_46 => ?_)
  have k_46 := (gFr_M (17 + 32 * (10 + 10)) 12 hq_46).K z_40.1.1 (by decide)
  refine g_putQF (v := some q_46) G fl_X9_26 pu_10_10 (hini.mpr rfl) (k_46) (by first | decide | omega) rfl dX9_init_48 ?_
  have z_48 := gNz_A (f := 10) z_40 hq_46 (by decide) (fun g g1 g2 => by omega) (N := 12) rfl (by decide)
  first | refine g_aload_n G dX9_init_51 rfl ?_ | refine g_aload_nN G dX9_init_51 rfl ?_ | refine g_aload_nQ G dX9_init_51 rfl ?_
  refine g_bipush (v := nI 24) G dX9_init_52 (by decide) ?_
  refine g_new_int (κ := 17 + 32 * (10 + 12)) G ac_int (by first | decide | omega) (rfl) (by omega) (by omega) (by omega) dX9_init_54 (fun q_54 hq_54 => ?_)
  have k_54 := (gFr_M (17 + 32 * (10 + 12)) 24 hq_54).K z_48.1.1 (by decide)
  refine g_putQF (v := some q_54) G fl_X9_29 pu_10_12 (hini.mpr rfl) (k_54) (by first | decide | omega) rfl dX9_init_56 ?_
  have z_56 := gNz_A (f := 12) z_48 hq_54 (by decide) (fun g g1 g2 => by
    obtain rfl := (show g = 11 by omega) <;> decide) (N := 24) rfl (by decide)
  first | refine g_aload_n G dX9_init_59 rfl ?_ | refine g_aload_nN G dX9_init_59 rfl ?_ | refine g_aload_nQ G dX9_init_59 rfl ?_
  refine g_bipush (v := nI 24) G dX9_init_60 (by decide) ?_
  refine g_new_ii (κ := 20 + 32 * 13) (N := 24) G cl_X9_32 (by decide) rfl (by omega) (by omega) (by omega) dX9_init_62 (fun q_62 hq_62 => ?_)
  have k_62 := (gFr_M (20 + 32 * 13) 24 hq_62).K z_56.1.1 (by decide)
  refine g_putQF (v := some q_62) G fl_X9_33 pu_10_13 (hini.mpr rfl) (k_62) (by first | decide | omega) rfl dX9_init_65 ?_
  have z_65 := gNz_B (f := 13) z_56 hq_62 (by decide) (fun g g1 g2 => by omega) (by decide)
  first | refine g_aload_n G dX9_init_68 rfl ?_ | refine g_aload_nN G dX9_init_68 rfl ?_ | refine g_aload_nQ G dX9_init_68 rfl ?_
  refine g_bipush (v := nI 24) G dX9_init_69 (by decide) ?_
  refine g_new_ii (κ := 20 + 32 * 14) (N := 24) G cl_X9_32 (by decide) rfl (by omega) (by omega) (by omega) dX9_init_71 (fun q_71 hq_71 => ?_)
  have k_71 := (gFr_M (20 + 32 * 14) 24 hq_71).K z_65.1.1 (by decide)
  refine g_putQF (v := some q_71) G fl_X9_37 pu_10_14 (hini.mpr rfl) (k_71) (by first | decide | omega) rfl dX9_init_74 ?_
  have z_74 := gNz_B (f := 14) z_65 hq_71 (by decide) (fun g g1 g2 => by omega) (by decide)
  first | refine g_aload_n G dX9_init_77 rfl ?_ | refine g_aload_nN G dX9_init_77 rfl ?_ | refine g_aload_nQ G dX9_init_77 rfl ?_
  refine g_bipush (v := nI 24) G dX9_init_78 (by decide) ?_
  refine g_new_ii (κ := 20 + 32 * 15) (N := 24) G cl_X9_32 (by decide) rfl (by omega) (by omega) (by omega) dX9_init_80 (fun q_80 hq_80 => ?_)
  have k_80 := (gFr_M (20 + 32 * 15) 24 hq_80).K z_74.1.1 (by decide)
  refine g_putQF (v := some q_80) G fl_X9_40 pu_10_15 (hini.mpr rfl) (k_80) (by first | decide | omega) rfl dX9_init_83 ?_
  have z_83 := gNz_B (f := 15) z_74 hq_80 (by decide) (fun g g1 g2 => by omega) (by decide)
  first | refine g_aload_n G dX9_init_86 rfl ?_ | refine g_aload_nN G dX9_init_86 rfl ?_ | refine g_aload_nQ G dX9_init_86 rfl ?_
  refine g_bipush (v := nI 24) G dX9_init_87 (by decide) ?_
  refine g_new_int (κ := 17 + 32 * (10 + 16)) G ac_int (by first | decide | omega) (rfl) (by omega) (by omega) (by omega) dX9_init_89 (fun q_89 hq_89 => ?_)
  have k_89 := (gFr_M (17 + 32 * (10 + 16)) 24 hq_89).K z_83.1.1 (by decide)
  refine g_putQF (v := some q_89) G fl_X9_43 pu_10_16 (hini.mpr rfl) (k_89) (by first | decide | omega) rfl dX9_init_91 ?_
  have z_91 := gNz_A (f := 16) z_83 hq_89 (by decide) (fun g g1 g2 => by omega) (N := 24) rfl (by decide)
  first | refine g_aload_n G dX9_init_94 rfl ?_ | refine g_aload_nN G dX9_init_94 rfl ?_ | refine g_aload_nQ G dX9_init_94 rfl ?_
  refine g_bipush (v := nI 20) G dX9_init_95 (by decide) ?_
  refine g_new_int (κ := 17 + 32 * (10 + 18)) G ac_int (by first | decide | omega) (rfl) (by omega) (by omega) (by omega) dX9_init_97 (fun q_97 hq_97 => ?_)
  have k_97 := (gFr_M (17 + 32 * (10 + 18)) 20 hq_97).K z_91.1.1 (by decide)
  refine g_putQF (v := some q_97) G fl_X9_46 pu_10_18 (hini.mpr rfl) (k_97) (by first | decide | omega) rfl dX9_init_99 ?_
  have z_99 := gNz_A (f := 18) z_91 hq_97 (by decide) (fun g g1 g2 => by
    obtain rfl := (show g = 17 by omega) <;> decide) (N := 20) rfl (by decide)
  first | refine g_aload_n G dX9_init_102 rfl ?_ | refine g_aload_nN G dX9_init_102 rfl ?_ | refine g_aload_nQ G dX9_init_102 rfl ?_
  refine g_bipush (v := nI 20) G dX9_init_103 (by decide) ?_
  refine g_new_int (κ := 17 + 32 * (10 + 19)) G ac_int (by first | decide | omega) (rfl) (by omega) (by omega) (by omega) dX9_init_105 (fun q_105 hq_105 => ?_)
  have k_105 := (gFr_M (17 + 32 * (10 + 19)) 20 hq_105).K z_99.1.1 (by decide)
  refine g_putQF (v := some q_105) G fl_X9_49 pu_10_19 (hini.mpr rfl) (k_105) (by first | decide | omega) rfl dX9_init_107 ?_
  have z_107 := gNz_A (f := 19) z_99 hq_105 (by decide) (fun g g1 g2 => by omega) (N := 20) rfl (by decide)
  first | refine g_aload_n G dX9_init_110 rfl ?_ | refine g_aload_nN G dX9_init_110 rfl ?_ | refine g_aload_nQ G dX9_init_110 rfl ?_
  refine g_bipush (v := nI 20) G dX9_init_111 (by decide) ?_
  refine g_new_int (κ := 17 + 32 * (10 + 20)) G ac_int (by first | decide | omega) (rfl) (by omega) (by omega) (by omega) dX9_init_113 (fun q_113 hq_113 => ?_)
  have k_113 := (gFr_M (17 + 32 * (10 + 20)) 20 hq_113).K z_107.1.1 (by decide)
  refine g_putQF (v := some q_113) G fl_X9_52 pu_10_20 (hini.mpr rfl) (k_113) (by first | decide | omega) rfl dX9_init_115 ?_
  have z_115 := gNz_A (f := 20) z_107 hq_113 (by decide) (fun g g1 g2 => by omega) (N := 20) rfl (by decide)
  first | refine g_aload_n G dX9_init_118 rfl ?_ | refine g_aload_nN G dX9_init_118 rfl ?_ | refine g_aload_nQ G dX9_init_118 rfl ?_
  refine g_bipush (v := nI 20) G dX9_init_119 (by decide) ?_
  refine g_new_int (κ := 17 + 32 * (10 + 21)) G ac_int (by first | decide | omega) (rfl) (by omega) (by omega) (by omega) dX9_init_121 (fun q_121 hq_121 => ?_)
  have k_121 := (gFr_M (17 + 32 * (10 + 21)) 20 hq_121).K z_115.1.1 (by decide)
  refine g_putQF (v := some q_121) G fl_X9_55 pu_10_21 (hini.mpr rfl) (k_121) (by first | decide | omega) rfl dX9_init_123 ?_
  have z_123 := gNz_A (f := 21) z_115 hq_121 (by decide) (fun g g1 g2 => by omega) (N := 20) rfl (by decide)
  first | refine g_aload_n G dX9_init_126 rfl ?_ | refine g_aload_nN G dX9_init_126 rfl ?_ | refine g_aload_nQ G dX9_init_126 rfl ?_
  refine g_sipush (v := nI 960) G dX9_init_127 (by decide) ?_
  refine g_new_int (κ := 17 + 32 * (10 + 22)) G ac_int (by first | decide | omega) (rfl) (by omega) (by omega) (by omega) dX9_init_130 (fun q_130 hq_130 => ?_)
  have k_130 := (gFr_M (17 + 32 * (10 + 22)) 960 hq_130).K z_123.1.1 (by decide)
  refine g_putQF (v := some q_130) G fl_X9_58 pu_10_22 (hini.mpr rfl) (k_130) (by first | decide | omega) rfl dX9_init_132 ?_
  have z_132 := gNz_A (f := 22) z_123 hq_130 (by decide) (fun g g1 g2 => by omega) (N := 960) rfl (by decide)
  first | refine g_aload_n G dX9_init_135 rfl ?_ | refine g_aload_nN G dX9_init_135 rfl ?_ | refine g_aload_nQ G dX9_init_135 rfl ?_
  refine g_bipush (v := nI 40) G dX9_init_136 (by decide) ?_
  refine g_new_int (κ := 17 + 32 * (10 + 24)) G ac_int (by first | decide | omega) (rfl) (by omega) (by omega) (by omega) dX9_init_138 (fun q_138 hq_138 => ?_)
  have k_138 := (gFr_M (17 + 32 * (10 + 24)) 40 hq_138).K z_132.1.1 (by decide)
  refine g_putQF (v := some q_138) G fl_X9_61 pu_10_24 (hini.mpr rfl) (k_138) (by first | decide | omega) rfl dX9_init_140 ?_
  have z_140 := gNz_A (f := 24) z_132 hq_138 (by decide) (fun g g1 g2 => by
    obtain rfl := (show g = 23 by omega) <;> decide) (N := 40) rfl (by decide)
  first | refine g_aload_n G dX9_init_143 rfl ?_ | refine g_aload_nN G dX9_init_143 rfl ?_ | refine g_aload_nQ G dX9_init_143 rfl ?_
  refine g_bipush (v := nI 40) G dX9_init_144 (by decide) ?_
  refine g_new_int (κ := 17 + 32 * (10 + 25)) G ac_int (by first | decide | omega) (rfl) (by omega) (by omega) (by omega) dX9_init_146 (fun q_146 hq_146 => ?_)
  have k_146 := (gFr_M (17 + 32 * (10 + 25)) 40 hq_146).K z_140.1.1 (by decide)
  refine g_putQF (v := some q_146) G fl_X9_64 pu_10_25 (hini.mpr rfl) (k_146) (by first | decide | omega) rfl dX9_init_148 ?_
  have z_148 := gNz_A (f := 25) z_140 hq_146 (by decide) (fun g g1 g2 => by omega) (N := 40) rfl (by decide)
  first | refine g_aload_n G dX9_init_151 rfl ?_ | refine g_aload_nN G dX9_init_151 rfl ?_ | refine g_aload_nQ G dX9_init_151 rfl ?_
  refine g_bipush (v := nI 40) G dX9_init_152 (by decide) ?_
  refine g_new_int (κ := 17 + 32 * (10 + 26)) G ac_int (by first | decide | omega) (rfl) (by omega) (by omega) (by omega) dX9_init_154 (fun q_154 hq_154 => ?_)
  have k_154 := (gFr_M (17 + 32 * (10 + 26)) 40 hq_154).K z_148.1.1 (by decide)
  refine g_putQF (v := some q_154) G fl_X9_67 pu_10_26 (hini.mpr rfl) (k_154) (by first | decide | omega) rfl dX9_init_156 ?_
  have z_156 := gNz_A (f := 26) z_148 hq_154 (by decide) (fun g g1 g2 => by omega) (N := 40) rfl (by decide)
  first | refine g_aload_n G dX9_init_159 rfl ?_ | refine g_aload_nN G dX9_init_159 rfl ?_ | refine g_aload_nQ G dX9_init_159 rfl ?_
  refine g_new (N := 9) (κ := 10 + 32 * 0) G nw_X9_70 (by first | decide | omega) rfl (by omega) (by omega) dX9_init_160 (fun q_160 hq_160 => ?_)
  have FN0 := gFr_N (10 + 32 * 0) hq_160
  have zn0 := gNz_F z_156 FN0 (by omega) (fun g hg _ => by omega)
  refine g_dup G dX9_init_163 rfl ?_
  first | refine g_aload_n G dX9_init_164 rfl ?_ | refine g_aload_nN G dX9_init_164 rfl ?_ | refine g_aload_nQ G dX9_init_164 rfl ?_
  refine g_callIN G (c_X8_init _ _ q_160 y 0 (by decide) (gK_N _ _ _) (by simp [gX, sN]; rfl)) mt_X8_init mi_X8_init ml_X9_72 (by decide) (by omega) (by omega) rfl (Nat.le_of_ble_eq_true rfl) dX9_init_165 (fun v_165 S_165 hp_165 => ?_)
  obtain ⟨rfl, ⟨a0, ha0⟩, FS0⟩ := hp_165
  simp only [Option.toList, List.nil_append]
  have zm0 := gNz_F zn0 FS0 (by unfold gPk; omega) (fun g hg _ => by unfold gPk; omega)
  refine g_putQF (v := some q_160) G fl_X9_75 pu_10_27 (hini.mpr rfl) (zm0.1.1) (by first | decide | omega) rfl dX9_init_168 ?_
  have z_168 := gNz_Y (f := 27) (q := q_160) zm0 (by decide) (fun g g1 g2 => by omega) (fun hl => absurd rfl hl) (fun b1 b2 => absurd b2 (by decide))
  first | refine g_aload_n G dX9_init_171 rfl ?_ | refine g_aload_nN G dX9_init_171 rfl ?_ | refine g_aload_nQ G dX9_init_171 rfl ?_
  refine g_new (N := 9) (κ := 10 + 32 * 1) G nw_X9_70 (by first | decide | omega) rfl (by omega) (by omega) dX9_init_172 (fun q_172 hq_172 => ?_)
  have FN1 := gFr_N (10 + 32 * 1) hq_172
  have zn1 := gNz_F z_168 FN1 (by omega) (fun g hg _ => by omega)
  refine g_dup G dX9_init_175 rfl ?_
  first | refine g_aload_n G dX9_init_176 rfl ?_ | refine g_aload_nN G dX9_init_176 rfl ?_ | refine g_aload_nQ G dX9_init_176 rfl ?_
  refine g_callIN G (c_X8_init _ _ q_172 y 1 (by decide) (gK_N _ _ _) (by simp [gX, sN]; rfl)) mt_X8_init mi_X8_init ml_X9_72 (by decide) (by omega) (by omega) rfl (Nat.le_of_ble_eq_true rfl) dX9_init_177 (fun v_177 S_177 hp_177 => ?_)
  obtain ⟨rfl, ⟨a1, ha1⟩, FS1⟩ := hp_177
  simp only [Option.toList, List.nil_append]
  have zm1 := gNz_F zn1 FS1 (by unfold gPk; omega) (fun g hg _ => by unfold gPk; omega)
  refine g_putQF (v := some q_172) G fl_X9_79 pu_10_28 (hini.mpr rfl) (zm1.1.1) (by first | decide | omega) rfl dX9_init_180 ?_
  have z_180 := gNz_Y (f := 28) (q := q_172) zm1 (by decide) (fun g g1 g2 => by omega) (fun hl => absurd rfl hl) (fun b1 b2 => absurd b2 (by decide))
  first | refine g_aload_n G dX9_init_183 rfl ?_ | refine g_aload_nN G dX9_init_183 rfl ?_ | refine g_aload_nQ G dX9_init_183 rfl ?_
  refine g_sipush (v := nI 2500) G dX9_init_184 (by decide) ?_
  refine g_new_int (κ := 17 + 32 * (10 + 29)) G ac_int (by first | decide | omega) (rfl) (by omega) (by omega) (by omega) dX9_init_187 (fun q_187 hq_187 => ?_)
  have k_187 := (gFr_M (17 + 32 * (10 + 29)) 2500 hq_187).K z_180.1.1 (by decide)
  refine g_putQF (v := some q_187) G fl_X9_82 pu_10_29 (hini.mpr rfl) (k_187) (by first | decide | omega) rfl dX9_init_189 ?_
  have z_189 := gNz_A (f := 29) z_180 hq_187 (by decide) (fun g g1 g2 => by omega) (N := 2500) rfl (by decide)
  first | refine g_aload_n G dX9_init_192 rfl ?_ | refine g_aload_nN G dX9_init_192 rfl ?_ | refine g_aload_nQ G dX9_init_192 rfl ?_
  refine g_sipush (v := nI 2500) G dX9_init_193 (by decide) ?_
  refine g_new_int (κ := 17 + 32 * (10 + 30)) G ac_int (by first | decide | omega) (rfl) (by omega) (by omega) (by omega) dX9_init_196 (fun q_196 hq_196 => ?_)
  have k_196 := (gFr_M (17 + 32 * (10 + 30)) 2500 hq_196).K z_189.1.1 (by decide)
  refine g_putQF (v := some q_196) G fl_X9_85 pu_10_30 (hini.mpr rfl) (k_196) (by first | decide | omega) rfl dX9_init_198 ?_
  have z_198 := gNz_A (f := 30) z_189 hq_196 (by decide) (fun g g1 g2 => by omega) (N := 2500) rfl (by decide)
  first | refine g_aload_n G dX9_init_201 rfl ?_ | refine g_aload_nN G dX9_init_201 rfl ?_ | refine g_aload_nQ G dX9_init_201 rfl ?_
  refine g_sipush (v := nI 2500) G dX9_init_202 (by decide) ?_
  refine g_new_int (κ := 17 + 32 * (10 + 31)) G ac_int (by first | decide | omega) (rfl) (by omega) (by omega) (by omega) dX9_init_205 (fun q_205 hq_205 => ?_)
  have k_205 := (gFr_M (17 + 32 * (10 + 31)) 2500 hq_205).K z_198.1.1 (by decide)
  refine g_putQF (v := some q_205) G fl_X9_88 pu_10_31 (hini.mpr rfl) (k_205) (by first | decide | omega) rfl dX9_init_207 ?_
  have z_207 := gNz_A (f := 31) z_198 hq_205 (by decide) (fun g g1 g2 => by omega) (N := 2500) rfl (by decide)
  exact g_vret G F (⟨rfl, ⟨(fun k i => if k = 0 then (fun g => if g = 31 then q_205 else ((fun g => if g = 30 then q_196 else ((fun g => if g = 29 then q_187 else ((fun g => if g = 28 then q_172 else ((fun g => if g = 27 then q_160 else ((fun g => if g = 26 then q_154 else ((fun g => if g = 25 then q_146 else ((fun g => if g = 24 then q_138 else ((fun g => if g = 22 then q_130 else ((fun g => if g = 21 then q_121 else ((fun g => if g = 20 then q_113 else ((fun g => if g = 19 then q_105 else ((fun g => if g = 18 then q_97 else ((fun g => if g = 16 then q_89 else ((fun g => if g = 15 then q_80 else ((fun g => if g = 14 then q_71 else ((fun g => if g = 13 then q_62 else ((fun g => if g = 12 then q_54 else ((fun g => if g = 10 then q_46 else ((fun g => if g = 9 then q_38 else ((fun g => if g = 7 then q_30 else ((fun g => if g = 4 then q_22 else ((fun g => if g = 1 then q_8 else (fun _ => 0) g)) g)) g)) g)) g)) g)) g)) g)) g)) g)) g)) g)) g)) g)) g)) g)) g)) g)) g)) g)) g)) g)) g) i else if k = 1 then a0 i else a1 i), gNz_end z_207 (fun f => rfl), (gStt_mono (gStt_mono (gStt_mono (gStt_mono (gStt_mono (gStt_mono (gStt_mono (gStt_mono (gStt_mono (gStt_mono (ha0 (fun k i => if k = 0 then (fun g => if g = 31 then q_205 else ((fun g => if g = 30 then q_196 else ((fun g => if g = 29 then q_187 else ((fun g => if g = 28 then q_172 else ((fun g => if g = 27 then q_160 else ((fun g => if g = 26 then q_154 else ((fun g => if g = 25 then q_146 else ((fun g => if g = 24 then q_138 else ((fun g => if g = 22 then q_130 else ((fun g => if g = 21 then q_121 else ((fun g => if g = 20 then q_113 else ((fun g => if g = 19 then q_105 else ((fun g => if g = 18 then q_97 else ((fun g => if g = 16 then q_89 else ((fun g => if g = 15 then q_80 else ((fun g => if g = 14 then q_71 else ((fun g => if g = 13 then q_62 else ((fun g => if g = 12 then q_54 else ((fun g => if g = 10 then q_46 else ((fun g => if g = 9 then q_38 else ((fun g => if g = 7 then q_30 else ((fun g => if g = 4 then q_22 else ((fun g => if g = 1 then q_8 else (fun _ => 0) g)) g)) g)) g)) g)) g)) g)) g)) g)) g)) g)) g)) g)) g)) g)) g)) g)) g)) g)) g)) g)) g)) g) i else if k = 1 then a0 i else a1 i) (fun g _ => rfl)) (gFr_Y _ 11 27 y (some q_160)) (by first | omega | (unfold gPk; omega)) (fun g _ _ => by first | omega | (unfold gPk; omega))) FN1 (by first | omega | (unfold gPk; omega)) (fun g _ _ => by first | omega | (unfold gPk; omega))) FS1 (by first | omega | (unfold gPk; omega)) (fun g _ _ => by first | omega | (unfold gPk; omega))) (gFr_Y _ 11 28 y (some q_172)) (by first | omega | (unfold gPk; omega)) (fun g _ _ => by first | omega | (unfold gPk; omega))) (gFr_M (17 + 32 * (10 + 29)) 2500 hq_187) (by first | omega | (unfold gPk; omega)) (fun g _ _ => by first | omega | (unfold gPk; omega))) (gFr_Y _ 11 29 y (some q_187)) (by first | omega | (unfold gPk; omega)) (fun g _ _ => by first | omega | (unfold gPk; omega))) (gFr_M (17 + 32 * (10 + 30)) 2500 hq_196) (by first | omega | (unfold gPk; omega)) (fun g _ _ => by first | omega | (unfold gPk; omega))) (gFr_Y _ 11 30 y (some q_196)) (by first | omega | (unfold gPk; omega)) (fun g _ _ => by first | omega | (unfold gPk; omega))) (gFr_M (17 + 32 * (10 + 31)) 2500 hq_205) (by first | omega | (unfold gPk; omega)) (fun g _ _ => by first | omega | (unfold gPk; omega))) (gFr_Y _ 11 31 y (some q_205)) (by first | omega | (unfold gPk; omega)) (fun g _ _ => by first | omega | (unfold gPk; omega))), M0, (gStt_mono (gStt_mono (gStt_mono (gStt_mono (gStt_mono (gStt_mono (gStt_mono (ha1 (fun k i => if k = 0 then (fun g => if g = 31 then q_205 else ((fun g => if g = 30 then q_196 else ((fun g => if g = 29 then q_187 else ((fun g => if g = 28 then q_172 else ((fun g => if g = 27 then q_160 else ((fun g => if g = 26 then q_154 else ((fun g => if g = 25 then q_146 else ((fun g => if g = 24 then q_138 else ((fun g => if g = 22 then q_130 else ((fun g => if g = 21 then q_121 else ((fun g => if g = 20 then q_113 else ((fun g => if g = 19 then q_105 else ((fun g => if g = 18 then q_97 else ((fun g => if g = 16 then q_89 else ((fun g => if g = 15 then q_80 else ((fun g => if g = 14 then q_71 else ((fun g => if g = 13 then q_62 else ((fun g => if g = 12 then q_54 else ((fun g => if g = 10 then q_46 else ((fun g => if g = 9 then q_38 else ((fun g => if g = 7 then q_30 else ((fun g => if g = 4 then q_22 else ((fun g => if g = 1 then q_8 else (fun _ => 0) g)) g)) g)) g)) g)) g)) g)) g)) g)) g)) g)) g)) g)) g)) g)) g)) g)) g)) g)) g)) g)) g)) g) i else if k = 1 then a0 i else a1 i) (fun g _ => rfl)) (gFr_Y _ 11 28 y (some q_172)) (by first | omega | (unfold gPk; omega)) (fun g _ _ => by first | omega | (unfold gPk; omega))) (gFr_M (17 + 32 * (10 + 29)) 2500 hq_187) (by first | omega | (unfold gPk; omega)) (fun g _ _ => by first | omega | (unfold gPk; omega))) (gFr_Y _ 11 29 y (some q_187)) (by first | omega | (unfold gPk; omega)) (fun g _ _ => by first | omega | (unfold gPk; omega))) (gFr_M (17 + 32 * (10 + 30)) 2500 hq_196) (by first | omega | (unfold gPk; omega)) (fun g _ _ => by first | omega | (unfold gPk; omega))) (gFr_Y _ 11 30 y (some q_196)) (by first | omega | (unfold gPk; omega)) (fun g _ _ => by first | omega | (unfold gPk; omega))) (gFr_M (17 + 32 * (10 + 31)) 2500 hq_205) (by first | omega | (unfold gPk; omega)) (fun g _ _ => by first | omega | (unfold gPk; omega))) (gFr_Y _ 11 31 y (some q_205)) (by first | omega | (unfold gPk; omega)) (fun g _ _ => by first | omega | (unfold gPk; omega)))⟩, (((((((((((((((((((((((((((((((((((((((((((((((((gFr.rf S).M1 (κ := 17 + 32 * (10 + 1)) 1000 hq_8 (fun k z => by unfold gCk at z; omega)).Y1 1 y (some q_8) (fun k z => by unfold gCk at z; omega)).X1 3 y (-1) (fun k z => by unfold gCk at z; omega)).M1 (κ := 17 + 32 * (10 + 4)) 2500 hq_22 (fun k z => by unfold gCk at z; omega)).Y1 4 y (some q_22) (fun k z => by unfold gCk at z; omega)).M1 (κ := 17 + 32 * (10 + 7)) 8 hq_30 (fun k z => by unfold gCk at z; omega)).Y1 7 y (some q_30) (fun k z => by unfold gCk at z; omega)).M1 (κ := 17 + 32 * (10 + 9)) 12 hq_38 (fun k z => by unfold gCk at z; omega)).Y1 9 y (some q_38) (fun k z => by unfold gCk at z; omega)).M1 (κ := 17 + 32 * (10 + 10)) 12 hq_46 (fun k z => by unfold gCk at z; omega)).Y1 10 y (some q_46) (fun k z => by unfold gCk at z; omega)).M1 (κ := 17 + 32 * (10 + 12)) 24 hq_54 (fun k z => by unfold gCk at z; omega)).Y1 12 y (some q_54) (fun k z => by unfold gCk at z; omega)).M1 (κ := 20 + 32 * 13) 24 hq_62 (fun k z => by unfold gCk at z; omega)).Y1 13 y (some q_62) (fun k z => by unfold gCk at z; omega)).M1 (κ := 20 + 32 * 14) 24 hq_71 (fun k z => by unfold gCk at z; omega)).Y1 14 y (some q_71) (fun k z => by unfold gCk at z; omega)).M1 (κ := 20 + 32 * 15) 24 hq_80 (fun k z => by unfold gCk at z; omega)).Y1 15 y (some q_80) (fun k z => by unfold gCk at z; omega)).M1 (κ := 17 + 32 * (10 + 16)) 24 hq_89 (fun k z => by unfold gCk at z; omega)).Y1 16 y (some q_89) (fun k z => by unfold gCk at z; omega)).M1 (κ := 17 + 32 * (10 + 18)) 20 hq_97 (fun k z => by unfold gCk at z; omega)).Y1 18 y (some q_97) (fun k z => by unfold gCk at z; omega)).M1 (κ := 17 + 32 * (10 + 19)) 20 hq_105 (fun k z => by unfold gCk at z; omega)).Y1 19 y (some q_105) (fun k z => by unfold gCk at z; omega)).M1 (κ := 17 + 32 * (10 + 20)) 20 hq_113 (fun k z => by unfold gCk at z; omega)).Y1 20 y (some q_113) (fun k z => by unfold gCk at z; omega)).M1 (κ := 17 + 32 * (10 + 21)) 20 hq_121 (fun k z => by unfold gCk at z; omega)).Y1 21 y (some q_121) (fun k z => by unfold gCk at z; omega)).M1 (κ := 17 + 32 * (10 + 22)) 960 hq_130 (fun k z => by unfold gCk at z; omega)).Y1 22 y (some q_130) (fun k z => by unfold gCk at z; omega)).M1 (κ := 17 + 32 * (10 + 24)) 40 hq_138 (fun k z => by unfold gCk at z; omega)).Y1 24 y (some q_138) (fun k z => by unfold gCk at z; omega)).M1 (κ := 17 + 32 * (10 + 25)) 40 hq_146 (fun k z => by unfold gCk at z; omega)).Y1 25 y (some q_146) (fun k z => by unfold gCk at z; omega)).M1 (κ := 17 + 32 * (10 + 26)) 40 hq_154 (fun k z => by unfold gCk at z; omega)).Y1 26 y (some q_154) (fun k z => by unfold gCk at z; omega)).N1 (κ := 10 + 32 * 0) hq_160 (fun k z => by unfold gCk at z; omega)).tr FS0 (fun k z => ⟨z, by unfold gCk at z; unfold gPk; omega⟩)).Y1 27 y (some q_160) (fun k z => by unfold gCk at z; omega)).N1 (κ := 10 + 32 * 1) hq_172 (fun k z => by unfold gCk at z; omega)).tr FS1 (fun k z => ⟨z, by unfold gCk at z; unfold gPk; omega⟩)).Y1 28 y (some q_172) (fun k z => by unfold gCk at z; omega)).M1 (κ := 17 + 32 * (10 + 29)) 2500 hq_187 (fun k z => by unfold gCk at z; omega)).Y1 29 y (some q_187) (fun k z => by unfold gCk at z; omega)).M1 (κ := 17 + 32 * (10 + 30)) 2500 hq_196 (fun k z => by unfold gCk at z; omega)).Y1 30 y (some q_196) (fun k z => by unfold gCk at z; omega)).M1 (κ := 17 + 32 * (10 + 31)) 2500 hq_205 (fun k z => by unfold gCk at z; omega)).Y1 31 y (some q_205) (fun k z => by unfold gCk at z; omega)⟩) (by omega) (by omega) dX9_init_210
