/-! ===== makers ===== -/
section GTHEN
variable {K : Nat → Prop} {S S1 : gS}
theorem gFr.X1 (F : gFr K S S1) {κ : Nat} (p q : Nat) (v : Int32) (h : ∀ k, K k → k ≠ κ) : gFr K S (sX S1 κ p q v) := F.tr (gFr_X S1 κ p q v) (fun k hk => ⟨hk, h k hk⟩)
theorem gFr.Y1 (F : gFr K S S1) {κ : Nat} (p q : Nat) (v : Option Nat) (h : ∀ k, K k → k ≠ κ) : gFr K S (sY S1 κ p q v) := F.tr (gFr_Y S1 κ p q v) (fun k hk => ⟨hk, h k hk⟩)
theorem gFr.N1 (F : gFr K S S1) {κ q : Nat} (hq : gK S1 q = 0) (h : ∀ k, K k → k ≠ κ) : gFr K S (sN S1 κ q) := F.tr (gFr_N κ hq) (fun k hk => ⟨hk, h k hk⟩)
theorem gFr.M1 (F : gFr K S S1) {κ q : Nat} (n : Nat) (hq : gK S1 q = 0) (h : ∀ k, K k → k ≠ κ) : gFr K S (sM S1 κ q n) := F.tr (gFr_M κ n hq) (fun k hk => ⟨hk, h k hk⟩)
end GTHEN

set_option maxHeartbeats 4000000 in
set_option maxRecDepth 100000 in
theorem c_Jxa1e45_init_da8c8 (d0 : Nat × Nat) (S : gS) (a : Nat) : gCt d0 yJxa1e45_init_da8c8 cJxa1e45_init_da8c8 1 none 1 0 0 [.ref a] S (fun v' S' => v' = none ∧ S' = S) gNo := by
  refine gCt_of (lo := [some (.ref a)]) (by decide +kernel) (Nat.le_of_ble_eq_true rfl) (rfl) ?_
  intro Γ hd G F hini
  first | refine g_aload_n G dJxa1e45_init_da8c8_0 rfl ?_ | refine g_aload_nN G dJxa1e45_init_da8c8_0 rfl ?_ | refine g_aload_nQ G dJxa1e45_init_da8c8_0 rfl ?_
  refine g_objInit G ml_Jxa1e45_1 oi_1 oi_2 (by decide) (Nat.le_of_ble_eq_true rfl) dJxa1e45_init_da8c8_1 ?_
  exact g_vret G F (by exact ⟨rfl, rfl⟩) (by omega) (by omega) dJxa1e45_init_da8c8_4

set_option maxHeartbeats 4000000 in
set_option maxRecDepth 100000 in
theorem c_Jxc12de_init_da8c8 (d0 : Nat × Nat) (S : gS) (a r : Nat) (h1 : gK S a = 1 + 32 * r) : gCt d0 yJxc12de_init_da8c8 cJxc12de_init_da8c8 1 none 2 0 0 [.ref a] S (fun v' S' => v' = none ∧ S' = sX S (1 + 32 * r) 0 a (nI 0)) gNo := by
  refine gCt_of (lo := [some (.ref a)]) (by decide +kernel) (Nat.le_of_ble_eq_true rfl) (rfl) ?_
  intro Γ hd G F hini
  first | refine g_aload_n G dJxc12de_init_da8c8_0 rfl ?_ | refine g_aload_nN G dJxc12de_init_da8c8_0 rfl ?_ | refine g_aload_nQ G dJxc12de_init_da8c8_0 rfl ?_
  refine g_callI G (c_Jxa1e45_init_da8c8 _ S a) mt_Jxa1e45_init_da8c8 mi_Jxa1e45_init_da8c8 ml_Jxc12de_1 (by decide) (by omega) (by omega) rfl (Nat.le_of_ble_eq_true rfl) dJxc12de_init_da8c8_1 (fun v_1 S_1 hp_1 => ?_)
  obtain ⟨rfl, rfl⟩ := hp_1
  simp only [Option.toList, List.nil_append]
  first | refine g_aload_n G dJxc12de_init_da8c8_4 rfl ?_ | refine g_aload_nN G dJxc12de_init_da8c8_4 rfl ?_ | refine g_aload_nQ G dJxc12de_init_da8c8_4 rfl ?_
  refine g_iconst (v := nI 0) G dJxc12de_init_da8c8_5 (by decide) ?_
  refine g_putI G fl_Jxc12de_7 pu_0_0 h1 (by omega) rfl dJxc12de_init_da8c8_6 ?_
  exact g_vret G F (by exact ⟨rfl, rfl⟩) (by omega) (by omega) dJxc12de_init_da8c8_9

set_option maxHeartbeats 4000000 in
set_option maxRecDepth 100000 in
theorem c_Jx4a65c_init_da8c8 (d0 : Nat × Nat) (S : gS) (a r : Nat) (el : Nat → Nat) (h1 : gK S a = 1 + 32 * r) (h2 : gX S (1 + 32 * r) 2 a = 0) : gCt d0 yJx4a65c_init_da8c8 cJx4a65c_init_da8c8 1 none 3 0 0 [.ref a] S (fun v' S' => v' = none ∧ gLst d0 S' a r 0 el ∧ gFr (fun k => k ≠ 1 + 32 * r) S S') gNo := by
  refine gCt_of (lo := [some (.ref a)]) (by decide +kernel) (Nat.le_of_ble_eq_true rfl) (rfl) ?_
  intro Γ hd G F hini
  subst hd
  first | refine g_aload_n G dJx4a65c_init_da8c8_0 rfl ?_ | refine g_aload_nN G dJx4a65c_init_da8c8_0 rfl ?_ | refine g_aload_nQ G dJx4a65c_init_da8c8_0 rfl ?_
  refine g_callI G (c_Jxc12de_init_da8c8 _ S a r h1) mt_Jxc12de_init_da8c8 mi_Jxc12de_init_da8c8 ml_Jx4a65c_1 (by decide) (by omega) (by omega) rfl (Nat.le_of_ble_eq_true rfl) dJx4a65c_init_da8c8_1 (fun v_1 S_1 hp_1 => ?_)
  obtain ⟨rfl, rfl⟩ := hp_1
  simp only [Option.toList, List.nil_append]
  first | refine g_aload_n G dJx4a65c_init_da8c8_4 rfl ?_ | refine g_aload_nN G dJx4a65c_init_da8c8_4 rfl ?_ | refine g_aload_nQ G dJx4a65c_init_da8c8_4 rfl ?_
  refine g_getsD G kD_39 dJx4a65c_init_da8c8_5 ?_
  refine g_putQ (v := some (gD Γ).1) G fl_Jx4a65c_9 pu_0_1 h1 (by omega) rfl dJx4a65c_init_da8c8_8 ?_
  exact g_vret G F (⟨rfl, ⟨h1, (u3_p _ _ (by decide)).trans h2, by omega, (gD Γ).1, u3_same _ _ _ _ _, Or.inl ⟨rfl, rfl⟩⟩, ((gFr.rf S).X1 _ _ _ (fun _ z => z)).Y1 _ _ _ (fun _ z => z)⟩) (by omega) (by omega) dJx4a65c_init_da8c8_11

set_option maxHeartbeats 4000000 in
set_option maxRecDepth 100000 in
theorem c_X0_init (d0 : Nat × Nat) (S : gS) (a i : Nat) (s : Int32) (h1 : gK S a = 2 + 32 * i) : gCt d0 yX0_init cX0_init 3 none 1 0 0 [.ref a, .int (nI i), .int s] S (fun v' S' => v' = none ∧ gCase S' a i s ∧ gFr (fun k => k ≠ 2 + 32 * i) S S') gNo := by
  refine gCt_of (lo := [some (.ref a), some (.int (nI i)), some (.int s)]) (by decide +kernel) (Nat.le_of_ble_eq_true rfl) (rfl) ?_
  intro Γ hd G F hini
  first | refine g_aload_n G dX0_init_0 rfl ?_ | refine g_aload_nN G dX0_init_0 rfl ?_ | refine g_aload_nQ G dX0_init_0 rfl ?_
  refine g_objInit G ml_X0_1 oi_1 oi_2 (by decide) (Nat.le_of_ble_eq_true rfl) dX0_init_1 ?_
  first | refine g_aload_n G dX0_init_4 rfl ?_ | refine g_aload_nN G dX0_init_4 rfl ?_ | refine g_aload_nQ G dX0_init_4 rfl ?_
  refine g_iload_n G dX0_init_5 rfl ?_
  refine g_putIF G fl_X0_7 pu_1_0 (hini.mpr rfl) (by assumption) (by first | decide | omega) rfl dX0_init_6 ?_
  first | refine g_aload_n G dX0_init_9 rfl ?_ | refine g_aload_nN G dX0_init_9 rfl ?_ | refine g_aload_nQ G dX0_init_9 rfl ?_
  refine g_iload_n G dX0_init_10 rfl ?_
  refine g_putI G fl_X0_13 pu_1_1 (by assumption) (by first | decide | omega) rfl dX0_init_11 ?_
  exact g_vret G F (⟨rfl, ⟨h1, by simp [gX, gY, sX, sY, u3], by simp [gX, gY, sX, sY, u3]⟩, ((gFr.rf S).X1 _ _ _ (fun _ z => z)).X1 _ _ _ (fun _ z => z)⟩) (by omega) (by omega) dX0_init_14

set_option maxHeartbeats 4000000 in
set_option maxRecDepth 100000 in
theorem c_X6_init (d0 : Nat × Nat) (S : gS) (a i : Nat) (role cl : Int32) (h1 : gK S a = 8 + 32 * i) : gCt d0 yX6_init cX6_init 4 none 1 0 0 [.ref a, .int (nI i), .int role, .int cl] S (fun v' S' => v' = none ∧ gPers S' a i role cl (nI 0) (nI 0) ∧ gFr (fun k => k ≠ 8 + 32 * i) S S') gNo := by
  refine gCt_of (lo := [some (.ref a), some (.int (nI i)), some (.int role), some (.int cl)]) (by decide +kernel) (Nat.le_of_ble_eq_true rfl) (rfl) ?_
  intro Γ hd G F hini
  first | refine g_aload_n G dX6_init_0 rfl ?_ | refine g_aload_nN G dX6_init_0 rfl ?_ | refine g_aload_nQ G dX6_init_0 rfl ?_
  refine g_objInit G ml_X6_3 oi_1 oi_2 (by decide) (Nat.le_of_ble_eq_true rfl) dX6_init_1 ?_
  first | refine g_aload_n G dX6_init_4 rfl ?_ | refine g_aload_nN G dX6_init_4 rfl ?_ | refine g_aload_nQ G dX6_init_4 rfl ?_
  refine g_iconst (v := nI 0) G dX6_init_5 (by decide) ?_
  refine g_putI G fl_X6_9 pu_7_3 (by assumption) (by first | decide | omega) rfl dX6_init_6 ?_
  first | refine g_aload_n G dX6_init_9 rfl ?_ | refine g_aload_nN G dX6_init_9 rfl ?_ | refine g_aload_nQ G dX6_init_9 rfl ?_
  refine g_iconst (v := nI 0) G dX6_init_10 (by decide) ?_
  refine g_putI G fl_X6_15 pu_7_4 (by assumption) (by first | decide | omega) rfl dX6_init_11 ?_
  first | refine g_aload_n G dX6_init_14 rfl ?_ | refine g_aload_nN G dX6_init_14 rfl ?_ | refine g_aload_nQ G dX6_init_14 rfl ?_
  refine g_iload_n G dX6_init_15 rfl ?_
  refine g_putIF G fl_X6_18 pu_7_0 (hini.mpr rfl) (by assumption) (by first | decide | omega) rfl dX6_init_16 ?_
  first | refine g_aload_n G dX6_init_19 rfl ?_ | refine g_aload_nN G dX6_init_19 rfl ?_ | refine g_aload_nQ G dX6_init_19 rfl ?_
  refine g_iload_n G dX6_init_20 rfl ?_
  refine g_putIF G fl_X6_21 pu_7_1 (hini.mpr rfl) (by assumption) (by first | decide | omega) rfl dX6_init_21 ?_
  first | refine g_aload_n G dX6_init_24 rfl ?_ | refine g_aload_nN G dX6_init_24 rfl ?_ | refine g_aload_nQ G dX6_init_24 rfl ?_
  refine g_iload_n G dX6_init_25 rfl ?_
  refine g_putI G fl_X6_24 pu_7_2 (by assumption) (by first | decide | omega) rfl dX6_init_26 ?_
  exact g_vret G F (⟨rfl, ⟨h1, by simp [gX, gY, sX, sY, u3], by simp [gX, gY, sX, sY, u3], by simp [gX, gY, sX, sY, u3], by simp [gX, gY, sX, sY, u3], by simp [gX, gY, sX, sY, u3]⟩, (((((gFr.rf S).X1 _ _ _ (fun _ z => z)).X1 _ _ _ (fun _ z => z)).X1 _ _ _ (fun _ z => z)).X1 _ _ _ (fun _ z => z)).X1 _ _ _ (fun _ z => z)⟩) (by omega) (by omega) dX6_init_29

set_option maxHeartbeats 4000000 in
set_option maxRecDepth 100000 in
theorem c_X5_init (d0 : Nat × Nat) (S : gS) (a e k : Nat) (day wh : Int32) (o1 o2 : Option Nat) (h1 : gK S a = 7 + 32 * (12 * e + k)) : gCt d0 yX5_init cX5_init 5 none 1 0 0 [.ref a, .int day, va_rf o1, va_rf o2, .int wh] S (fun v' S' => v' = none ∧ (gK S' a = 7 + 32 * (12 * e + k) ∧ gX S' (7 + 32 * (12 * e + k)) 0 a = day ∧ gY S' (7 + 32 * (12 * e + k)) 1 a = o1 ∧ gY S' (7 + 32 * (12 * e + k)) 2 a = o2 ∧ gX S' (7 + 32 * (12 * e + k)) 3 a = wh) ∧ gFr (fun z => z ≠ 7 + 32 * (12 * e + k)) S S') gNo := by
  refine gCt_of (lo := [some (.ref a), some (.int day), some (va_rf o1), some (va_rf o2), some (.int wh)]) (by decide +kernel) (by cases o1 <;> cases o2 <;> exact Nat.le_of_ble_eq_true rfl) (by cases o1 <;> cases o2 <;> rfl) ?_
  intro Γ hd G F hini
  first | refine g_aload_n G dX5_init_0 rfl ?_ | refine g_aload_nN G dX5_init_0 rfl ?_ | refine g_aload_nQ G dX5_init_0 rfl ?_
  refine g_objInit G ml_X5_3 oi_1 oi_2 (by decide) (Nat.le_of_ble_eq_true rfl) dX5_init_1 ?_
  first | refine g_aload_n G dX5_init_4 rfl ?_ | refine g_aload_nN G dX5_init_4 rfl ?_ | refine g_aload_nQ G dX5_init_4 rfl ?_
  refine g_iload_n G dX5_init_5 rfl ?_
  refine g_putIF G fl_X5_9 pu_6_0 (hini.mpr rfl) (by assumption) (by first | decide | omega) rfl dX5_init_6 ?_
  first | refine g_aload_n G dX5_init_9 rfl ?_ | refine g_aload_nN G dX5_init_9 rfl ?_ | refine g_aload_nQ G dX5_init_9 rfl ?_
  first | refine g_aload_n G dX5_init_10 rfl ?_ | refine g_aload_nN G dX5_init_10 rfl ?_ | refine g_aload_nQ G dX5_init_10 rfl ?_
  refine g_putQF (v := _) G fl_X5_15 pu_6_1 (hini.mpr rfl) (by assumption) (by first | decide | omega) rfl dX5_init_11 ?_
  first | refine g_aload_n G dX5_init_14 rfl ?_ | refine g_aload_nN G dX5_init_14 rfl ?_ | refine g_aload_nQ G dX5_init_14 rfl ?_
  first | refine g_aload_n G dX5_init_15 rfl ?_ | refine g_aload_nN G dX5_init_15 rfl ?_ | refine g_aload_nQ G dX5_init_15 rfl ?_
  refine g_putQF (v := _) G fl_X5_19 pu_6_2 (hini.mpr rfl) (by assumption) (by first | decide | omega) rfl dX5_init_16 ?_
  first | refine g_aload_n G dX5_init_19 rfl ?_ | refine g_aload_nN G dX5_init_19 rfl ?_ | refine g_aload_nQ G dX5_init_19 rfl ?_
  refine g_iload G dX5_init_20 rfl ?_
  refine g_putIF G fl_X5_22 pu_6_3 (hini.mpr rfl) (by assumption) (by first | decide | omega) rfl dX5_init_22 ?_
  exact g_vret G F (⟨rfl, ⟨h1, by simp [gX, gY, sX, sY, u3], by simp [gX, gY, sX, sY, u3], by simp [gX, gY, sX, sY, u3], by simp [gX, gY, sX, sY, u3]⟩, ((((gFr.rf S).X1 _ _ _ (fun _ z => z)).Y1 _ _ _ (fun _ z => z)).Y1 _ _ _ (fun _ z => z)).X1 _ _ _ (fun _ z => z)⟩) (by omega) (by omega) dX5_init_25

set_option maxHeartbeats 4000000 in
set_option maxRecDepth 100000 in
theorem c_X4_init (d0 : Nat × Nat) (S : gS) (a k D P : Nat) (num due : Int32) (h1 : gK S a = 6 + 32 * k) : gCt d0 yX4_init cX4_init 5 none 1 0 0 [.ref a, .ref D, .int num, .ref P, .int due] S (fun v' S' => v' = none ∧ (gK S' a = 6 + 32 * k ∧ gY S' (6 + 32 * k) 0 a = some D ∧ gX S' (6 + 32 * k) 1 a = num ∧ gY S' (6 + 32 * k) 2 a = some P ∧ gX S' (6 + 32 * k) 3 a = due ∧ gX S' (6 + 32 * k) 4 a = nI 0 ∧ gX S' (6 + 32 * k) 5 a = -1) ∧ gFr (fun z => z ≠ 6 + 32 * k) S S') gNo := by
  refine gCt_of (lo := [some (.ref a), some (.ref D), some (.int num), some (.ref P), some (.int due)]) (by decide +kernel) (Nat.le_of_ble_eq_true rfl) (rfl) ?_
  intro Γ hd G F hini
  first | refine g_aload_n G dX4_init_0 rfl ?_ | refine g_aload_nN G dX4_init_0 rfl ?_ | refine g_aload_nQ G dX4_init_0 rfl ?_
  refine g_objInit G ml_X4_3 oi_1 oi_2 (by decide) (Nat.le_of_ble_eq_true rfl) dX4_init_1 ?_
  first | refine g_aload_n G dX4_init_4 rfl ?_ | refine g_aload_nN G dX4_init_4 rfl ?_ | refine g_aload_nQ G dX4_init_4 rfl ?_
  refine g_iconst (v := nI 0) G dX4_init_5 (by decide) ?_
  refine g_putI G fl_X4_9 pu_5_4 (by assumption) (by first | decide | omega) rfl dX4_init_6 ?_
  first | refine g_aload_n G dX4_init_9 rfl ?_ | refine g_aload_nN G dX4_init_9 rfl ?_ | refine g_aload_nQ G dX4_init_9 rfl ?_
  refine g_iconst (v := (-1)) G dX4_init_10 (by decide) ?_
  refine g_putI G fl_X4_15 pu_5_5 (by assumption) (by first | decide | omega) rfl dX4_init_11 ?_
  first | refine g_aload_n G dX4_init_14 rfl ?_ | refine g_aload_nN G dX4_init_14 rfl ?_ | refine g_aload_nQ G dX4_init_14 rfl ?_
  first | refine g_aload_n G dX4_init_15 rfl ?_ | refine g_aload_nN G dX4_init_15 rfl ?_ | refine g_aload_nQ G dX4_init_15 rfl ?_
  refine g_putQF (v := some D) G fl_X4_18 pu_5_0 (hini.mpr rfl) (by assumption) (by first | decide | omega) rfl dX4_init_16 ?_
  first | refine g_aload_n G dX4_init_19 rfl ?_ | refine g_aload_nN G dX4_init_19 rfl ?_ | refine g_aload_nQ G dX4_init_19 rfl ?_
  refine g_iload_n G dX4_init_20 rfl ?_
  refine g_putIF G fl_X4_22 pu_5_1 (hini.mpr rfl) (by assumption) (by first | decide | omega) rfl dX4_init_21 ?_
  first | refine g_aload_n G dX4_init_24 rfl ?_ | refine g_aload_nN G dX4_init_24 rfl ?_ | refine g_aload_nQ G dX4_init_24 rfl ?_
  first | refine g_aload_n G dX4_init_25 rfl ?_ | refine g_aload_nN G dX4_init_25 rfl ?_ | refine g_aload_nQ G dX4_init_25 rfl ?_
  refine g_putQF (v := some P) G fl_X4_25 pu_5_2 (hini.mpr rfl) (by assumption) (by first | decide | omega) rfl dX4_init_26 ?_
  first | refine g_aload_n G dX4_init_29 rfl ?_ | refine g_aload_nN G dX4_init_29 rfl ?_ | refine g_aload_nQ G dX4_init_29 rfl ?_
  refine g_iload G dX4_init_30 rfl ?_
  refine g_putIF G fl_X4_29 pu_5_3 (hini.mpr rfl) (by assumption) (by first | decide | omega) rfl dX4_init_32 ?_
  exact g_vret G F (⟨rfl, ⟨h1, by simp [gX, gY, sX, sY, u3], by simp [gX, gY, sX, sY, u3], by simp [gX, gY, sX, sY, u3], by simp [gX, gY, sX, sY, u3], by simp [gX, gY, sX, sY, u3], by simp [gX, gY, sX, sY, u3]⟩, ((((((gFr.rf S).X1 _ _ _ (fun _ z => z)).X1 _ _ _ (fun _ z => z)).Y1 _ _ _ (fun _ z => z)).X1 _ _ _ (fun _ z => z)).Y1 _ _ _ (fun _ z => z)).X1 _ _ _ (fun _ z => z)⟩) (by omega) (by omega) dX4_init_35

set_option maxHeartbeats 4000000 in
set_option maxRecDepth 100000 in
theorem c_X3_init (d0 : Nat × Nat) (S : gS) (a e C : Nat) (el : Nat → Nat) (h1 : gK S a = 5 + 32 * e) : gCt d0 yX3_init cX3_init 3 none 4 1 3 [.ref a, .int (nI e), .ref C] S (fun v' S' => v' = none ∧ ∃ q, (gK S' a = 5 + 32 * e ∧ gX S' (5 + 32 * e) 0 a = nI e ∧ gY S' (5 + 32 * e) 1 a = some C ∧ gY S' (5 + 32 * e) 2 a = none ∧ gX S' (5 + 32 * e) 3 a = nI 0 ∧ gX S' (5 + 32 * e) 4 a = nI (1000 + e) ∧ gY S' (5 + 32 * e) 5 a = some q ∧ gLst d0 S' q (10 + e) 0 el) ∧ gFr (fun z => z ≠ 5 + 32 * e ∧ z ≠ 1 + 32 * (10 + e)) S S') gNo := by
  refine gCt_of (lo := [some (.ref a), some (.int (nI e)), some (.ref C)]) (by decide +kernel) (Nat.le_of_ble_eq_true rfl) (rfl) ?_
  intro Γ hd G F hini
  subst hd
  first | refine g_aload_n G dX3_init_0 rfl ?_ | refine g_aload_nN G dX3_init_0 rfl ?_ | refine g_aload_nQ G dX3_init_0 rfl ?_
  refine g_objInit G ml_X3_3 oi_1 oi_2 (by decide) (Nat.le_of_ble_eq_true rfl) dX3_init_1 ?_
  first | refine g_aload_n G dX3_init_4 rfl ?_ | refine g_aload_nN G dX3_init_4 rfl ?_ | refine g_aload_nQ G dX3_init_4 rfl ?_
  refine g_null G dX3_init_5 ?_
  refine g_putQ (v := none) G fl_X3_9 pu_4_2 h1 (by omega) rfl dX3_init_6 ?_
  first | refine g_aload_n G dX3_init_9 rfl ?_ | refine g_aload_nN G dX3_init_9 rfl ?_ | refine g_aload_nQ G dX3_init_9 rfl ?_
  refine g_iconst (v := nI 0) G dX3_init_10 (by decide) ?_
  refine g_putB G fl_X3_15 pu_4_3 (by first | exact Or.inl rfl | exact Or.inr rfl | assumption) (by assumption) (by first | decide | omega) rfl dX3_init_11 ?_
  first | refine g_aload_n G dX3_init_14 rfl ?_ | refine g_aload_nN G dX3_init_14 rfl ?_ | refine g_aload_nQ G dX3_init_14 rfl ?_
  refine g_new (N := 3) (κ := 1 + 32 * (10 + e)) G nw_X3_19 (by first | decide | omega) rfl (by omega) (by omega) dX3_init_15 (fun q_15 hq_15 => ?_)
  refine g_dup G dX3_init_18 rfl ?_
  refine g_callI G (c_Jx4a65c_init_da8c8 _ _ q_15 (10 + e) el (gK_N _ _ _) (by simp [gX, sN])) mt_Jx4a65c_init_da8c8 mi_Jx4a65c_init_da8c8 ml_X3_21 (by decide) (by omega) (by omega) rfl (Nat.le_of_ble_eq_true rfl) dX3_init_19 (fun v_19 S_19 hp_19 => ?_)
  obtain ⟨rfl, hl, F0⟩ := hp_19
  simp only [Option.toList, List.nil_append]
  have Fq := (((gFr.rf S).Y1 2 a none (fun k (z : ((fun z => z ≠ 5 + 32 * e ∧ z ≠ 1 + 32 * (10 + e))) k) => z.1)).X1 3 a (nI 0) (fun k z => z.1)).N1 (κ := 1 + 32 * (10 + e)) hq_15 (fun k z => z.2)
  have Fs := Fq.tr F0 (fun k z => ⟨z, z.2⟩)
  have FN := gFr_N (S := sX (sY S (5 + 32 * e) 2 a none) (5 + 32 * e) 3 a (nI 0)) (q := q_15) (1 + 32 * (10 + e)) hq_15
  have F9 := FN.tr (K := fun k => k ≠ 1 + 32 * (10 + e)) F0 (fun k z => ⟨z, z⟩)
  have h1 : gK S_19 a = 5 + 32 * e := Fs.K h1 (by omega)
  have e2 : gY S_19 (5 + 32 * e) 2 a = none := F9.Y (by first | omega | (dsimp only; omega)) (by simp [gX, gY, sX, sY, u3])
  have e3 : gX S_19 (5 + 32 * e) 3 a = nI 0 := F9.X (by first | omega | (dsimp only; omega)) (by simp [gX, gY, sX, sY, u3])
  refine g_putQF (v := some q_15) G fl_X3_22 pu_4_5 (hini.mpr rfl) h1 (by omega) rfl dX3_init_22 ?_
  first | refine g_aload_n G dX3_init_25 rfl ?_ | refine g_aload_nN G dX3_init_25 rfl ?_ | refine g_aload_nQ G dX3_init_25 rfl ?_
  refine g_iload_n G dX3_init_26 rfl ?_
  refine g_putIF G fl_X3_26 pu_4_0 (hini.mpr rfl) (by assumption) (by first | decide | omega) rfl dX3_init_27 ?_
  first | refine g_aload_n G dX3_init_30 rfl ?_ | refine g_aload_nN G dX3_init_30 rfl ?_ | refine g_aload_nQ G dX3_init_30 rfl ?_
  first | refine g_aload_n G dX3_init_31 rfl ?_ | refine g_aload_nN G dX3_init_31 rfl ?_ | refine g_aload_nQ G dX3_init_31 rfl ?_
  refine g_putQF (v := some C) G fl_X3_30 pu_4_1 (hini.mpr rfl) (by assumption) (by first | decide | omega) rfl dX3_init_32 ?_
  first | refine g_aload_n G dX3_init_35 rfl ?_ | refine g_aload_nN G dX3_init_35 rfl ?_ | refine g_aload_nQ G dX3_init_35 rfl ?_
  refine g_sipush (v := nI 1000) G dX3_init_36 (by decide) ?_
  refine g_iload_n G dX3_init_39 rfl ?_
  refine g_iadd G dX3_init_40 (nI_add _ _) ?_
  refine g_putI G fl_X3_34 pu_4_4 (by assumption) (by first | decide | omega) rfl dX3_init_41 ?_
  exact g_vret G F (⟨rfl, q_15, ⟨h1, by simp [gX, gY, sX, sY, u3], by simp [gX, gY, sX, sY, u3], by simp [gX, gY, sX, sY, u3, e2], by simp [gX, gY, sX, sY, u3, e3], by simp [gX, gY, sX, sY, u3], by simp [gX, gY, sX, sY, u3], gLst_mono hl (((((gFr.rf S_19).Y1 _ _ _ (fun k z => z)).X1 _ _ _ (fun k z => z)).Y1 _ _ _ (fun k z => z)).X1 _ _ _ (fun k (z : k ≠ 5 + 32 * e) => z)) (by first | omega | (dsimp only; omega)) (by first | omega | (dsimp only; omega)) (fun _ _ => rfl)⟩, (((Fs.Y1 _ _ _ (fun k z => z.1)).X1 _ _ _ (fun k z => z.1)).Y1 _ _ _ (fun k z => z.1)).X1 _ _ _ (fun k z => z.1)⟩) (by omega) (by omega) dX3_init_44
