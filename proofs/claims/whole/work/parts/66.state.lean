/-! ===== the reference: a new one ===== -/
theorem gStt_new {S' : gS} {s y ρ : Nat} {a : Nat → Nat} (b : Nat → Nat → Nat) (hb : ∀ g, gLs g ≠ 0 → b (1 + ρ) g = a g) (h1 : gK S' s = 10 + 32 * ρ) (h2 : gX S' (10 + 32 * ρ) 0 s = nI 0) (h3 : gY S' (10 + 32 * ρ) 8 s = some y) (h : ∀ g, gLs g ≠ 0 → gY S' (10 + 32 * ρ) g s = some (a g) ∧ gRow1 S' (a g) (17 + 32 * (60 + 10 * ρ + g)) (gLs g) (fun _ => nI 0)) : gStt S' s ρ b y M0 :=
  ⟨h1, h2, h3, fun g hg => by
    rw [hb g hg, show mA M0 (40 + g) = fun _ => nI 0 from funext fun _ => if_neg (by omega)]
    exact h g hg⟩
def gNz (S : gS) (y n : Nat) (fn : Nat → Nat) (v : Int32) : Prop := (gK S y = 11 ∧ (∀ p, p ≠ 3 → gX S 11 p y = nI 0) ∧ gX S 11 3 y = v) ∧ ∀ g, g < n → (gLen g ≠ 0 → gY S 11 g y = some (fn g) ∧ gK S (fn g) = 17 + 32 * (10 + g) ∧ gL S (fn g) = gLen g ∧ ∀ j, gX S (17 + 32 * (10 + g)) (fn g) j = nI 0) ∧ (13 ≤ g → g ≤ 15 → gY S 11 g y = some (fn g) ∧ gK S (fn g) = 20 + 32 * g ∧ gL S (fn g) = 24) ∧ (27 ≤ g → g ≤ 28 → gY S 11 g y = some (fn g))
section GNZ
variable {S S' : gS} {y n f q N : Nat} {fn : Nat → Nat} {v : Int32} {K : Nat → Prop}
theorem gNz_F (h : gNz S y n fn v) (F : gFr K S S') (k11 : K 11) (kf : ∀ g, g < n → gLen g ≠ 0 → K (17 + 32 * (10 + g))) : gNz S' y n fn v := by
  obtain ⟨⟨a1, a2, a3⟩, h⟩ := h
  refine ⟨⟨F.K a1 (by decide), fun p hp => F.X k11 (a2 p hp), F.X k11 a3⟩, fun g hg => ⟨fun hl => ?_, fun h1 h2 => ?_, fun h1 h2 => F.Y k11 ((h g hg).2.2 h1 h2)⟩⟩
  · obtain ⟨u1, u2, u3, u4⟩ := (h g hg).1 hl
    exact ⟨F.Y k11 u1, F.K u2 (by omega), ((F.1 _ (by rw [u2]; omega)).2).trans u3, fun j => F.X (kf g hg hl) (u4 j)⟩
  · obtain ⟨u1, u2, u3⟩ := (h g hg).2.1 h1 h2
    exact ⟨F.Y k11 u1, F.K u2 (by omega), ((F.1 _ (by rw [u2]; omega)).2).trans u3⟩
theorem gNz_X (w : Int32) (h : gNz S y n fn v) : gNz (sX S 11 3 y w) y n fn w := by
  obtain ⟨⟨a1, a2, a3⟩, h⟩ := h
  exact ⟨⟨a1, fun p hp => sX_p hp (a2 p hp), sX_s⟩, fun g hg => ⟨fun hl => ⟨((h g hg).1 hl).1, ((h g hg).1 hl).2.1, ((h g hg).1 hl).2.2.1, fun j => sX_k (by omega) (((h g hg).1 hl).2.2.2 j)⟩, (h g hg).2⟩⟩
/-- a reference field is set; what lies there is told -/
theorem gNz_Y (h : gNz S y n fn v) (hn : n ≤ f) (hgap : ∀ g, n ≤ g → g < f → gLen g = 0 ∧ ¬ (13 ≤ g ∧ g ≤ 15) ∧ ¬ (27 ≤ g ∧ g ≤ 28)) (h1 : gLen f ≠ 0 → gK S q = 17 + 32 * (10 + f) ∧ gL S q = gLen f ∧ ∀ j, gX S (17 + 32 * (10 + f)) q j = nI 0) (h2 : 13 ≤ f → f ≤ 15 → gK S q = 20 + 32 * f ∧ gL S q = 24) : gNz (sY S 11 f y (some q)) y (f + 1) (fun g => if g = f then q else fn g) v := by
  obtain ⟨⟨a1, a2, a3⟩, h⟩ := h
  refine ⟨⟨a1, a2, a3⟩, fun g hg => ?_⟩
  dsimp only
  by_cases z : g = f
  · subst z
    rw [if_pos rfl]
    exact ⟨fun hl => ⟨sY_s, h1 hl⟩, fun b1 b2 => ⟨sY_s, h2 b1 b2⟩, fun _ _ => sY_s⟩
  · rw [if_neg z]
    by_cases w : g < n
    · obtain ⟨u1, u2, u3⟩ := h g w
      exact ⟨fun hl => ⟨sY_p z (u1 hl).1, (u1 hl).2⟩, fun b1 b2 => ⟨sY_p z (u2 b1 b2).1, (u2 b1 b2).2⟩, fun b1 b2 => sY_p z (u3 b1 b2)⟩
    · obtain ⟨g1, g2, g3⟩ := hgap g (by omega) (by omega)
      exact ⟨fun hl => absurd g1 hl, fun b1 b2 => absurd ⟨b1, b2⟩ g2, fun b1 b2 => absurd ⟨b1, b2⟩ g3⟩
theorem gNz_A (h : gNz S y n fn v) (hq : gK S q = 0) (hn : n ≤ f) (hgap : ∀ g, n ≤ g → g < f → gLen g = 0 ∧ ¬ (13 ≤ g ∧ g ≤ 15) ∧ ¬ (27 ≤ g ∧ g ≤ 28)) (hN : gLen f = N) (hf : f < 13 ∨ 15 < f) : gNz (sY (sM S (17 + 32 * (10 + f)) q N) 11 f y (some q)) y (f + 1) (fun g => if g = f then q else fn g) v :=
  gNz_Y (gNz_F h (gFr_M (17 + 32 * (10 + f)) N hq) (by omega) (fun g hg _ => by omega)) hn hgap (fun _ => ⟨gK_M _ _ _ _, (va_up_self _ _ _).trans hN.symm, fun j => congrFun (gM_x _ _ _ _) j⟩) (fun h1 h2 => by omega)
theorem gNz_B (h : gNz S y n fn v) (hq : gK S q = 0) (hn : n ≤ f) (hgap : ∀ g, n ≤ g → g < f → gLen g = 0 ∧ ¬ (13 ≤ g ∧ g ≤ 15) ∧ ¬ (27 ≤ g ∧ g ≤ 28)) (hf : 13 ≤ f ∧ f ≤ 15) : gNz (sY (sM S (20 + 32 * f) q 24) 11 f y (some q)) y (f + 1) (fun g => if g = f then q else fn g) v :=
  gNz_Y (gNz_F h (gFr_M (20 + 32 * f) 24 hq) (by omega) (fun g hg _ => by omega)) hn hgap (fun hl => absurd (by obtain z | z | z := (show f = 13 ∨ f = 14 ∨ f = 15 by omega) <;> rw [z] <;> rfl) hl) (fun _ _ => ⟨gK_M _ _ _ _, va_up_self _ _ _⟩)
theorem gNz_end {b : Nat → Nat → Nat} (h : gNz S y 32 fn (-1)) (hb : ∀ f, b 0 f = fn f) : gRest S y b M0 := by
  obtain ⟨⟨a1, a2, a3⟩, h⟩ := h
  refine ⟨a1, fun c hc => (a2 c (by have := gCnt_lt hc; omega)), a3, fun f hf => ?_, fun f hf j hj => ?_, fun e he => ?_, fun j hj => absurd hj (Nat.not_lt_zero j), fun j hj => absurd hj (Nat.not_lt_zero j), fun f h1 h2 => ?_, ?_, ?_⟩
  · rw [hb]
    obtain ⟨u1, u2, u3, -⟩ := (h f (by have := gLen_lt hf; omega)).1 hf
    exact ⟨u1, u2, u3⟩
  · rw [hb, show mA M0 f j = nI 0 from if_neg (by have := gExa_lt hf; omega)]
    exact ((h f (by have := gExa_lt hf; omega)).1 (gExa_lt hf).2.2.2).2.2.2 j
  · rw [hb]
    exact ((h 21 (by decide)).1 (by decide)).2.2.2 e
  · rw [hb]
    obtain ⟨u1, u2, u3⟩ := (h f (by omega)).2.1 h1 h2
    exact ⟨u1, u2, u3, fun d hd => absurd hd (Nat.not_lt_zero d)⟩
  · rw [hb]; exact (h 27 (by decide)).2.2 (by decide) (by decide)
  · rw [hb]; exact (h 28 (by decide)).2.2 (by decide) (by decide)
end GNZ

set_option maxHeartbeats 4000000 in
set_option maxRecDepth 100000 in
theorem c_X8_init (d0 : Nat × Nat) (S : gS) (s y ρ : Nat) (hρ : ρ ≤ 1) (h1 : gK S s = 10 + 32 * ρ) (h2 : gX S (10 + 32 * ρ) 0 s = nI 0) : gCt d0 yX8_init cX8_init 2 none 2 7 200 [.ref s, .ref y] S (fun v' S' => v' = none ∧ (∃ a : Nat → Nat, ∀ b : Nat → Nat → Nat, (∀ g, gLs g ≠ 0 → b (1 + ρ) g = a g) → gStt S' s ρ b y M0) ∧ gFr (gPk ρ) S S') gNo := by
  refine gCt_of (lo := [some (.ref s), some (.ref y)]) (by decide +kernel) (Nat.le_of_ble_eq_true rfl) (rfl) ?_
  intro Γ hd G F hini
  subst hd
  first | refine g_aload_n G dX8_init_0 rfl ?_ | refine g_aload_nN G dX8_init_0 rfl ?_ | refine g_aload_nQ G dX8_init_0 rfl ?_
  first | refine g_aload_n G dX8_init_1 rfl ?_ | refine g_aload_nN G dX8_init_1 rfl ?_ | refine g_aload_nQ G dX8_init_1 rfl ?_
  refine g_putQF (v := some y) G fl_X8_3 pu_9_8 (hini.mpr rfl) (h1) (by first | decide | omega) rfl dX8_init_2 ?_
  have hy8 : gY (sY S (10 + 32 * ρ) 8 s (some y)) (10 + 32 * ρ) 8 s = some y := sY_s
  have F0 : gFr (gPk ρ) S (sY S (10 + 32 * ρ) 8 s (some y)) := (gFr.rf S).Y1 _ _ _ (fun k z => z.1)
  first | refine g_aload_n G dX8_init_5 rfl ?_ | refine g_aload_nN G dX8_init_5 rfl ?_ | refine g_aload_nQ G dX8_init_5 rfl ?_
  refine g_objInit G ml_X8_9 oi_1 oi_2 (by decide) (Nat.le_of_ble_eq_true rfl) dX8_init_6 ?_
  first | refine g_aload_n G dX8_init_9 rfl ?_ | refine g_aload_nN G dX8_init_9 rfl ?_ | refine g_aload_nQ G dX8_init_9 rfl ?_
  refine g_bipush (v := nI 12) G dX8_init_10 (by decide) ?_
  refine g_new_int (κ := 17 + 32 * (60 + 10 * ρ + 1)) G ac_int (by first | decide | omega) (rfl) (by omega) (by omega) (by omega) dX8_init_12 (fun q_12 hq_12 => ?_)
  have M1 := gFr_M (17 + 32 * (60 + 10 * ρ + 1)) 12 hq_12
  have k_1 := M1.K h1 (by omega)
  refine g_putQF (v := some q_12) G fl_X8_15 pu_9_1 (hini.mpr rfl) (k_1) (by first | decide | omega) rfl dX8_init_14 ?_
  first | refine g_aload_n G dX8_init_17 rfl ?_ | refine g_aload_nN G dX8_init_17 rfl ?_ | refine g_aload_nQ G dX8_init_17 rfl ?_
  refine g_bipush (v := nI 12) G dX8_init_18 (by decide) ?_
  refine g_new_int (κ := 17 + 32 * (60 + 10 * ρ + 2)) G ac_int (by first | decide | omega) (rfl) (by omega) (by omega) (by omega) dX8_init_20 (fun q_20 hq_20 => ?_)
  have M2 := gFr_M (17 + 32 * (60 + 10 * ρ + 2)) 12 hq_20
  have k_2 := M2.K k_1 (by omega)
  refine g_putQF (v := some q_20) G fl_X8_19 pu_9_2 (hini.mpr rfl) (k_2) (by first | decide | omega) rfl dX8_init_22 ?_
  first | refine g_aload_n G dX8_init_25 rfl ?_ | refine g_aload_nN G dX8_init_25 rfl ?_ | refine g_aload_nQ G dX8_init_25 rfl ?_
  refine g_bipush (v := nI 24) G dX8_init_26 (by decide) ?_
  refine g_new_int (κ := 17 + 32 * (60 + 10 * ρ + 3)) G ac_int (by first | decide | omega) (rfl) (by omega) (by omega) (by omega) dX8_init_28 (fun q_28 hq_28 => ?_)
  have M3 := gFr_M (17 + 32 * (60 + 10 * ρ + 3)) 24 hq_28
  have k_3 := M3.K k_2 (by omega)
  refine g_putQF (v := some q_28) G fl_X8_22 pu_9_3 (hini.mpr rfl) (k_3) (by first | decide | omega) rfl dX8_init_30 ?_
  first | refine g_aload_n G dX8_init_33 rfl ?_ | refine g_aload_nN G dX8_init_33 rfl ?_ | refine g_aload_nQ G dX8_init_33 rfl ?_
  refine g_bipush (v := nI 24) G dX8_init_34 (by decide) ?_
  refine g_new_int (κ := 17 + 32 * (60 + 10 * ρ + 4)) G ac_int (by first | decide | omega) (rfl) (by omega) (by omega) (by omega) dX8_init_36 (fun q_36 hq_36 => ?_)
  have M4 := gFr_M (17 + 32 * (60 + 10 * ρ + 4)) 24 hq_36
  have k_4 := M4.K k_3 (by omega)
  refine g_putQF (v := some q_36) G fl_X8_25 pu_9_4 (hini.mpr rfl) (k_4) (by first | decide | omega) rfl dX8_init_38 ?_
  first | refine g_aload_n G dX8_init_41 rfl ?_ | refine g_aload_nN G dX8_init_41 rfl ?_ | refine g_aload_nQ G dX8_init_41 rfl ?_
  refine g_bipush (v := nI 24) G dX8_init_42 (by decide) ?_
  refine g_new_int (κ := 17 + 32 * (60 + 10 * ρ + 5)) G ac_int (by first | decide | omega) (rfl) (by omega) (by omega) (by omega) dX8_init_44 (fun q_44 hq_44 => ?_)
  have M5 := gFr_M (17 + 32 * (60 + 10 * ρ + 5)) 24 hq_44
  have k_5 := M5.K k_4 (by omega)
  refine g_putQF (v := some q_44) G fl_X8_28 pu_9_5 (hini.mpr rfl) (k_5) (by first | decide | omega) rfl dX8_init_46 ?_
  first | refine g_aload_n G dX8_init_49 rfl ?_ | refine g_aload_nN G dX8_init_49 rfl ?_ | refine g_aload_nQ G dX8_init_49 rfl ?_
  refine g_bipush (v := nI 40) G dX8_init_50 (by decide) ?_
  refine g_new_int (κ := 17 + 32 * (60 + 10 * ρ + 6)) G ac_int (by first | decide | omega) (rfl) (by omega) (by omega) (by omega) dX8_init_52 (fun q_52 hq_52 => ?_)
  have M6 := gFr_M (17 + 32 * (60 + 10 * ρ + 6)) 40 hq_52
  have k_6 := M6.K k_5 (by omega)
  refine g_putQF (v := some q_52) G fl_X8_31 pu_9_6 (hini.mpr rfl) (k_6) (by first | decide | omega) rfl dX8_init_54 ?_
  first | refine g_aload_n G dX8_init_57 rfl ?_ | refine g_aload_nN G dX8_init_57 rfl ?_ | refine g_aload_nQ G dX8_init_57 rfl ?_
  refine g_bipush (v := nI 40) G dX8_init_58 (by decide) ?_
  refine g_new_int (κ := 17 + 32 * (60 + 10 * ρ + 7)) G ac_int (by first | decide | omega) (rfl) (by omega) (by omega) (by omega) dX8_init_60 (fun q_60 hq_60 => ?_)
  have M7 := gFr_M (17 + 32 * (60 + 10 * ρ + 7)) 40 hq_60
  have k_7 := M7.K k_6 (by omega)
  refine g_putQF (v := some q_60) G fl_X8_34 pu_9_7 (hini.mpr rfl) (k_7) (by first | decide | omega) rfl dX8_init_62 ?_
  exact g_vret G F (⟨rfl, ⟨fun g => if g = 1 then q_12 else if g = 2 then q_20 else if g = 3 then q_28 else if g = 4 then q_36 else if g = 5 then q_44 else if g = 6 then q_52 else q_60, fun b hb => gStt_new (a := fun g => if g = 1 then q_12 else if g = 2 then q_20 else if g = 3 then q_28 else if g = 4 then q_36 else if g = 5 then q_44 else if g = 6 then q_52 else q_60) b hb k_7 (M7.X (by omega) (M6.X (by omega) (M5.X (by omega) (M4.X (by omega) (M3.X (by omega) (M2.X (by omega) (M1.X (by omega) h2))))))) (sY_p (by decide) (M7.Y (by omega) (sY_p (by decide) (M6.Y (by omega) (sY_p (by decide) (M5.Y (by omega) (sY_p (by decide) (M4.Y (by omega) (sY_p (by decide) (M3.Y (by omega) (sY_p (by decide) (M2.Y (by omega) (sY_p (by decide) (M1.Y (by omega) sY_s)))))))))))))) (fun g hg => by
      have hl := gLs_lt hg
      obtain rfl | rfl | rfl | rfl | rfl | rfl | rfl := (show g = 1 ∨ g = 2 ∨ g = 3 ∨ g = 4 ∨ g = 5 ∨ g = 6 ∨ g = 7 by omega)
      · exact ⟨(sY_p (by decide) (M7.Y (by omega) (sY_p (by decide) (M6.Y (by omega) (sY_p (by decide) (M5.Y (by omega) (sY_p (by decide) (M4.Y (by omega) (sY_p (by decide) (M3.Y (by omega) (sY_p (by decide) (M2.Y (by omega) sY_s)))))))))))), (gRow1_mono (gRow1_mono (gRow1_mono (gRow1_mono (gRow1_mono (gRow1_mono (gRow1_mono (gRow1_mono (gRow1_mono (gRow1_mono (gRow1_mono (gRow1_mono (gRow1_mono (⟨gK_M _ _ _ _, va_up_self _ _ _, fun j _ => congrFun (gM_x _ _ _ _) j⟩ : gRow1 (sM _ (17 + 32 * (60 + 10 * ρ + 1)) q_12 12) q_12 (17 + 32 * (60 + 10 * ρ + 1)) 12 (fun _ => nI 0)) (gFr_Y _ (10 + 32 * ρ) _ _ _) (by first | omega | (dsimp only; omega)) (by omega)) M2 (by first | omega | (dsimp only; omega)) (by omega)) (gFr_Y _ (10 + 32 * ρ) _ _ _) (by first | omega | (dsimp only; omega)) (by omega)) M3 (by first | omega | (dsimp only; omega)) (by omega)) (gFr_Y _ (10 + 32 * ρ) _ _ _) (by first | omega | (dsimp only; omega)) (by omega)) M4 (by first | omega | (dsimp only; omega)) (by omega)) (gFr_Y _ (10 + 32 * ρ) _ _ _) (by first | omega | (dsimp only; omega)) (by omega)) M5 (by first | omega | (dsimp only; omega)) (by omega)) (gFr_Y _ (10 + 32 * ρ) _ _ _) (by first | omega | (dsimp only; omega)) (by omega)) M6 (by first | omega | (dsimp only; omega)) (by omega)) (gFr_Y _ (10 + 32 * ρ) _ _ _) (by first | omega | (dsimp only; omega)) (by omega)) M7 (by first | omega | (dsimp only; omega)) (by omega)) (gFr_Y _ (10 + 32 * ρ) _ _ _) (by first | omega | (dsimp only; omega)) (by omega))⟩
      · exact ⟨(sY_p (by decide) (M7.Y (by omega) (sY_p (by decide) (M6.Y (by omega) (sY_p (by decide) (M5.Y (by omega) (sY_p (by decide) (M4.Y (by omega) (sY_p (by decide) (M3.Y (by omega) sY_s)))))))))), (gRow1_mono (gRow1_mono (gRow1_mono (gRow1_mono (gRow1_mono (gRow1_mono (gRow1_mono (gRow1_mono (gRow1_mono (gRow1_mono (gRow1_mono (⟨gK_M _ _ _ _, va_up_self _ _ _, fun j _ => congrFun (gM_x _ _ _ _) j⟩ : gRow1 (sM _ (17 + 32 * (60 + 10 * ρ + 2)) q_20 12) q_20 (17 + 32 * (60 + 10 * ρ + 2)) 12 (fun _ => nI 0)) (gFr_Y _ (10 + 32 * ρ) _ _ _) (by first | omega | (dsimp only; omega)) (by omega)) M3 (by first | omega | (dsimp only; omega)) (by omega)) (gFr_Y _ (10 + 32 * ρ) _ _ _) (by first | omega | (dsimp only; omega)) (by omega)) M4 (by first | omega | (dsimp only; omega)) (by omega)) (gFr_Y _ (10 + 32 * ρ) _ _ _) (by first | omega | (dsimp only; omega)) (by omega)) M5 (by first | omega | (dsimp only; omega)) (by omega)) (gFr_Y _ (10 + 32 * ρ) _ _ _) (by first | omega | (dsimp only; omega)) (by omega)) M6 (by first | omega | (dsimp only; omega)) (by omega)) (gFr_Y _ (10 + 32 * ρ) _ _ _) (by first | omega | (dsimp only; omega)) (by omega)) M7 (by first | omega | (dsimp only; omega)) (by omega)) (gFr_Y _ (10 + 32 * ρ) _ _ _) (by first | omega | (dsimp only; omega)) (by omega))⟩
      · exact ⟨(sY_p (by decide) (M7.Y (by omega) (sY_p (by decide) (M6.Y (by omega) (sY_p (by decide) (M5.Y (by omega) (sY_p (by decide) (M4.Y (by omega) sY_s)))))))), (gRow1_mono (gRow1_mono (gRow1_mono (gRow1_mono (gRow1_mono (gRow1_mono (gRow1_mono (gRow1_mono (gRow1_mono (⟨gK_M _ _ _ _, va_up_self _ _ _, fun j _ => congrFun (gM_x _ _ _ _) j⟩ : gRow1 (sM _ (17 + 32 * (60 + 10 * ρ + 3)) q_28 24) q_28 (17 + 32 * (60 + 10 * ρ + 3)) 24 (fun _ => nI 0)) (gFr_Y _ (10 + 32 * ρ) _ _ _) (by first | omega | (dsimp only; omega)) (by omega)) M4 (by first | omega | (dsimp only; omega)) (by omega)) (gFr_Y _ (10 + 32 * ρ) _ _ _) (by first | omega | (dsimp only; omega)) (by omega)) M5 (by first | omega | (dsimp only; omega)) (by omega)) (gFr_Y _ (10 + 32 * ρ) _ _ _) (by first | omega | (dsimp only; omega)) (by omega)) M6 (by first | omega | (dsimp only; omega)) (by omega)) (gFr_Y _ (10 + 32 * ρ) _ _ _) (by first | omega | (dsimp only; omega)) (by omega)) M7 (by first | omega | (dsimp only; omega)) (by omega)) (gFr_Y _ (10 + 32 * ρ) _ _ _) (by first | omega | (dsimp only; omega)) (by omega))⟩
      · exact ⟨(sY_p (by decide) (M7.Y (by omega) (sY_p (by decide) (M6.Y (by omega) (sY_p (by decide) (M5.Y (by omega) sY_s)))))), (gRow1_mono (gRow1_mono (gRow1_mono (gRow1_mono (gRow1_mono (gRow1_mono (gRow1_mono (⟨gK_M _ _ _ _, va_up_self _ _ _, fun j _ => congrFun (gM_x _ _ _ _) j⟩ : gRow1 (sM _ (17 + 32 * (60 + 10 * ρ + 4)) q_36 24) q_36 (17 + 32 * (60 + 10 * ρ + 4)) 24 (fun _ => nI 0)) (gFr_Y _ (10 + 32 * ρ) _ _ _) (by first | omega | (dsimp only; omega)) (by omega)) M5 (by first | omega | (dsimp only; omega)) (by omega)) (gFr_Y _ (10 + 32 * ρ) _ _ _) (by first | omega | (dsimp only; omega)) (by omega)) M6 (by first | omega | (dsimp only; omega)) (by omega)) (gFr_Y _ (10 + 32 * ρ) _ _ _) (by first | omega | (dsimp only; omega)) (by omega)) M7 (by first | omega | (dsimp only; omega)) (by omega)) (gFr_Y _ (10 + 32 * ρ) _ _ _) (by first | omega | (dsimp only; omega)) (by omega))⟩
      · exact ⟨(sY_p (by decide) (M7.Y (by omega) (sY_p (by decide) (M6.Y (by omega) sY_s)))), (gRow1_mono (gRow1_mono (gRow1_mono (gRow1_mono (gRow1_mono (⟨gK_M _ _ _ _, va_up_self _ _ _, fun j _ => congrFun (gM_x _ _ _ _) j⟩ : gRow1 (sM _ (17 + 32 * (60 + 10 * ρ + 5)) q_44 24) q_44 (17 + 32 * (60 + 10 * ρ + 5)) 24 (fun _ => nI 0)) (gFr_Y _ (10 + 32 * ρ) _ _ _) (by first | omega | (dsimp only; omega)) (by omega)) M6 (by first | omega | (dsimp only; omega)) (by omega)) (gFr_Y _ (10 + 32 * ρ) _ _ _) (by first | omega | (dsimp only; omega)) (by omega)) M7 (by first | omega | (dsimp only; omega)) (by omega)) (gFr_Y _ (10 + 32 * ρ) _ _ _) (by first | omega | (dsimp only; omega)) (by omega))⟩
      · exact ⟨(sY_p (by decide) (M7.Y (by omega) sY_s)), (gRow1_mono (gRow1_mono (gRow1_mono (⟨gK_M _ _ _ _, va_up_self _ _ _, fun j _ => congrFun (gM_x _ _ _ _) j⟩ : gRow1 (sM _ (17 + 32 * (60 + 10 * ρ + 6)) q_52 40) q_52 (17 + 32 * (60 + 10 * ρ + 6)) 40 (fun _ => nI 0)) (gFr_Y _ (10 + 32 * ρ) _ _ _) (by first | omega | (dsimp only; omega)) (by omega)) M7 (by first | omega | (dsimp only; omega)) (by omega)) (gFr_Y _ (10 + 32 * ρ) _ _ _) (by first | omega | (dsimp only; omega)) (by omega))⟩
      · exact ⟨sY_s, (gRow1_mono (⟨gK_M _ _ _ _, va_up_self _ _ _, fun j _ => congrFun (gM_x _ _ _ _) j⟩ : gRow1 (sM _ (17 + 32 * (60 + 10 * ρ + 7)) q_60 40) q_60 (17 + 32 * (60 + 10 * ρ + 7)) 40 (fun _ => nI 0)) (gFr_Y _ (10 + 32 * ρ) _ _ _) (by first | omega | (dsimp only; omega)) (by omega))⟩)⟩, ((((((((((((((F0).M1 12 hq_12 (fun k z => by unfold gPk at z; omega)).Y1 1 s (some q_12) (fun k z => z.1)).M1 12 hq_20 (fun k z => by unfold gPk at z; omega)).Y1 2 s (some q_20) (fun k z => z.1)).M1 24 hq_28 (fun k z => by unfold gPk at z; omega)).Y1 3 s (some q_28) (fun k z => z.1)).M1 24 hq_36 (fun k z => by unfold gPk at z; omega)).Y1 4 s (some q_36) (fun k z => z.1)).M1 24 hq_44 (fun k z => by unfold gPk at z; omega)).Y1 5 s (some q_44) (fun k z => z.1)).M1 40 hq_52 (fun k z => by unfold gPk at z; omega)).Y1 6 s (some q_52) (fun k z => z.1)).M1 40 hq_60 (fun k z => by unfold gPk at z; omega)).Y1 7 s (some q_60) (fun k z => z.1)⟩) (by omega) (by omega) dX8_init_65
