/-! ===== the reference: a State's day ===== -/
def gPk (ρ k : Nat) : Prop := k ≠ 10 + 32 * ρ ∧ ¬ (k % 32 = 17 ∧ 60 + 10 * ρ < k / 32 ∧ k / 32 ≤ 67 + 10 * ρ)
/-- the model's part and a State's, together -/
def gBo (S : gS) (y s ρ : Nat) (b : Nat → Nat → Nat) (M : gM) : Prop := gRest S y b M ∧ gStt S s ρ b y M
theorem gBo_S {S : gS} {y s ρ : Nat} {b : Nat → Nat → Nat} {M : gM} (g n : Nat) {j : Nat} (v : Int32) (h : gBo S y s ρ b M) (hρ : ρ ≤ 1) (e : gLs g = n + 1) (hj : j < n + 1) : gBo (sX S (17 + 32 * (60 + 10 * ρ + g)) (b (1 + ρ) g) j v) y s ρ b (uA M (40 + g) j v) := by
  have hl := gLs_lt (f := g) (by rw [e]; omega)
  exact ⟨gRest_M (gRest_k h.1 (Or.inr (Or.inr (by omega)))) (fun _ _ => rfl) (fun f hf => funext fun i => uA_f (by omega)) rfl, gStt_S g n v h.2 e hj⟩
theorem gBo_d {S : gS} {y s ρ : Nat} {b : Nat → Nat → Nat} {M : gM} (n : Nat) (h : gBo S y s ρ b M) : gBo (sX S (10 + 32 * ρ) 0 s (nI n)) y s ρ b (uN M 40 n) := by
  refine ⟨gRest_M (gRest_k h.1 (Or.inr (Or.inl (by omega)))) (fun i hi => uN_o hi) (fun _ _ => rfl) rfl, ?_⟩
  obtain ⟨q1, q2, q3, q4⟩ := h.2
  exact ⟨q1, by rw [uN_s]; exact sX_s, q3, fun g hg => ⟨(q4 g hg).1, (q4 g hg).2.1, (q4 g hg).2.2.1, fun j hj => sX_k (by omega) ((q4 g hg).2.2.2 j hj)⟩⟩
theorem gBo_to {S : gS} {y s ρ : Nat} {b : Nat → Nat → Nat} {M M9 : gM} (h : gBo S y s ρ b M) (e : M = M9) : gBo S y s ρ b M9 := e ▸ h
theorem nI_m1 {a : Nat} (h : 0 < a) : nI a + (-1) = nI (a - 1) := (Int32.sub_eq_add_neg (nI a) 1).symm.trans (pk_sub (b := 1) h)
theorem gFr_p {S S1 : gS} {ρ g a j : Nat} {v : Int32} (F : gFr (gPk ρ) S S1) (h1 : 1 ≤ g) (h7 : g ≤ 7) : gFr (gPk ρ) S (sX S1 (17 + 32 * (60 + 10 * ρ + g)) a j v) := F.X1 _ _ _ (fun k z => by unfold gPk at z; omega)

set_option maxHeartbeats 4000000 in
set_option maxRecDepth 100000 in
theorem c_X8_pass (d0 : Nat × Nat) (S : gS) (y s ρ : Nat) (b : Nat → Nat → Nat) (M : gM) (r : gRest S y b M) (q : gStt S s ρ b y M) (i : gInv M) (hρ : ρ ≤ 1) : gCt d0 yX8_pass cX8_pass 5 (some .int) 4 0 0 [.ref s] S (fun v' S' => v' = some (.int (nI (mCarN M (3 * gClk M)).2)) ∧ gBo S' y s ρ b (mDay M) ∧ gFr (gPk ρ) S S') gNo := by
  refine gCt_of (lo := [some (.ref s), none, none, none, none]) (by decide +kernel) (Nat.le_of_ble_eq_true rfl) (rfl) ?_
  intro Γ hd G F hini
  obtain ⟨i6, i8, i11, i17, i23, i2, i5⟩ := i.b
  have hc3 := gct_le (fun k => decide (mA M 9 k = 0)) (mN M 8)
  have hc4 : gClk M ≤ 60 := by unfold gClk; omega
  have ph2 : ∀ (St : gS) (v2 : Int32) (w3 w4 : Option Value), gBo St y s ρ b (mCarN M (3 * gClk M)).1 → gFr (gPk ρ) S St → gW Γ 129 [some (.ref s), some (.int (nI (mCarN M (3 * gClk M)).2)), some (.int v2), w3, w4] [] St 0 0 := by
    intro St v2 w3 w4 hB F9
    have en := mCarN_n M (3 * gClk M)
    obtain ⟨r, q⟩ := id hB
    first | refine g_aload_n G dX8_pass_129 rfl ?_ | refine g_aload_nN G dX8_pass_129 rfl ?_ | refine g_aload_nQ G dX8_pass_129 rfl ?_
    refine g_dup G dX8_pass_130 rfl ?_
    refine g_getI G fl_X8_43 (q.kd) (by first | decide | omega) rfl (q.d.trans (congrArg nI (congrFun en 40))) dX8_pass_131 ?_
    refine g_iconst (v := nI 1) G dX8_pass_134 (by decide) ?_
    refine g_iadd G dX8_pass_135 (by first | exact nI_add _ _ | rfl) ?_
    refine g_putI G fl_X8_43 pu_9_0 (q.kd) (by first | decide | omega) rfl dX8_pass_136 ?_
    refine g_iconst (v := nI 0) G dX8_pass_139 (by decide) ?_
    refine g_istore_n G dX8_pass_140 (gSt_2 (by first | rfl | exact g_c1_rf)) ?_
    have h2 : gBo (sX St (10 + 32 * ρ) 0 s (nI (mN M 40 + 1))) y s ρ b (uN (mCarN M (3 * gClk M)).1 40 (mN M 40 + 1)) := gBo_d _ hB
    have F2 : gFr (gPk ρ) S (sX St (10 + 32 * ρ) 0 s (nI (mN M 40 + 1))) := F9.X1 _ _ _ (fun k z => z.1)
    have e2 : ∀ i, i ≠ 40 → mN (uN (mCarN M (3 * gClk M)).1 40 (mN M 40 + 1)) i = mN M i := fun i hi => (uN_o hi).trans (congrFun en i)
    have i2 : gInv (uN (mCarN M (3 * gClk M)).1 40 (mN M 40 + 1)) := gInv_day (gInv_carN i _)
    have loop141 : ∀ f2 t : Nat, ∀ Sv : gS, t ≤ (mN M 11) → (mN M 11) + 1 ≤ t + f2 → ∀ w3 w4 : Option Value, (gBo Sv y s ρ b (mRetN (uN (mCarN M (3 * gClk M)).1 40 (mN M 40 + 1)) t) ∧ gFr (gPk ρ) S Sv) → gW Γ 141 [some (.ref s), some (.int (nI (mCarN M (3 * gClk M)).2)), some (.int (nI (t))), w3, w4] [] Sv 0 0 := by
      intro f2
      induction f2 with
      | zero => intro t Sv  q1 q2; omega
      | succ f2 ih2 =>
        intro t Sv  ht2 hf2 w3 w4 hv2
        obtain ⟨hBt, F9t⟩ := hv2
        obtain ⟨r, q⟩ := id hBt
        have it := gInv_retN i2 t (by rw [e2 11 (by omega)]; exact ht2)
        refine g_iload_n G dX8_pass_141 rfl ?_
        first | refine g_aload_n G dX8_pass_142 rfl ?_ | refine g_aload_nN G dX8_pass_142 rfl ?_ | refine g_aload_nQ G dX8_pass_142 rfl ?_
        refine g_getR G fl_X8_3 (q.kd) (by first | decide | omega) rfl (q.md) dX8_pass_143 ?_
        refine g_getIN G fl_X8_95 (r.kd) (by first | decide | omega) rfl ((show gX _ 11 11 y = nI (mN M 11) from r.n 11 rfl |>.trans (congrArg nI ((congrFun (mRetN_n _ t) 11).trans (e2 11 (by omega)))))) dX8_pass_146 ?_
        refine g_icmp_ge (tgt := 248) G dX8_pass_149 (by decide) (fun c_149 => ?_) (fun c_149 => ?_)
        · have et : t = (mN M 11) := by have := (nI_leI (by omega) (by omega)).mp c_149; omega
          subst et
          refine g_iload_n G dX8_pass_248 rfl ?_
          exact g_iret G F (⟨rfl, by
              unfold mDay
              exact hBt, F9t⟩) (by omega) (by omega) dX8_pass_249
        · have hlt2 : t < (mN M 11) := by have z : ¬ (mN M 11) ≤ t := fun z => c_149 ((nI_leI (by omega) (by omega)).mpr z); omega
          first | refine g_aload_n G dX8_pass_152 rfl ?_ | refine g_aload_nN G dX8_pass_152 rfl ?_ | refine g_aload_nQ G dX8_pass_152 rfl ?_
          refine g_getR G fl_X8_22 (q.kd) (by first | decide | omega) rfl (q.Y 3 rfl) dX8_pass_153 ?_
          refine g_iload_n G dX8_pass_156 rfl ?_
          refine g_iald G (q.A 3 rfl) (by first | decide | omega) (q.lt 3 23 rfl (by omega)) (by omega) (q.X 3 23 rfl (by omega)) dX8_pass_157 ?_
          refine g_istore_n G dX8_pass_158 (gSt_3 (by first | rfl | exact g_c1_rf)) ?_
          refine g_iload_n G dX8_pass_159 rfl ?_
          refine g_iconst (v := (-1)) G dX8_pass_160 (by decide) ?_
          refine g_icmp_eq (tgt := 242) G dX8_pass_161 (by decide) (fun c_161 => ?_) (fun c_161 => ?_)
          · have e9 : mRetN (uN (mCarN M (3 * gClk M)).1 40 (mN M 40 + 1)) (t + 1) = mRet (mRetN (uN (mCarN M (3 * gClk M)).1 40 (mN M 40 + 1)) t) t := rfl
            have h9 : gBo Sv y s ρ b (mRetN (uN (mCarN M (3 * gClk M)).1 40 (mN M 40 + 1)) (t + 1)) := by rw [e9, show mRet (mRetN (uN (mCarN M (3 * gClk M)).1 40 (mN M 40 + 1)) t) t = (mRetN (uN (mCarN M (3 * gClk M)).1 40 (mN M 40 + 1)) t) from if_neg (fun z => z.1 c_161)]; exact hBt
            have F10 := F9t
            refine g_iinc (v := _) G dX8_pass_242 rfl (by first | exact nI_1 _ | rfl) (gSt_2 (by first | rfl | exact g_c1_rf)) ?_
            refine g_goto (tgt := 141) G dX8_pass_245 (by decide) ?_
            exact ih2 (t + 1) _ (by omega) (by omega) _ _ ⟨h9, F10⟩
          · have n43 : ¬ mA (mRetN (uN (mCarN M (3 * gClk M)).1 40 (mN M 40 + 1)) t) 43 t = -1 := c_161
            obtain ⟨p, hp0, ep⟩ := (it.p (d := t) (by rw [mRetN_n, e2 11 (by omega)]; exact hlt2)).resolve_left n43
            have hp : p < mN M 8 := by rw [mRetN_n, e2 8 (by omega)] at hp0; exact hp0
            have ep2 : (mA (mRetN (uN (mCarN M (3 * gClk M)).1 40 (mN M 40 + 1)) t) 43 t).toNatClampNeg = p := by rw [ep, nI_clamp (by omega)]
            rw [show mA (mRetN (uN (mCarN M (3 * gClk M)).1 40 (mN M 40 + 1)) t) (40 + 3) t = nI p from ep]
            first | refine g_aload_n G dX8_pass_164 rfl ?_ | refine g_aload_nN G dX8_pass_164 rfl ?_ | refine g_aload_nQ G dX8_pass_164 rfl ?_
            refine g_getR G fl_X8_25 (q.kd) (by first | decide | omega) rfl (q.Y 4 rfl) dX8_pass_165 ?_
            refine g_iload_n G dX8_pass_168 rfl ?_
            refine g_iald G (q.A 4 rfl) (by first | decide | omega) (q.lt 4 23 rfl (by omega)) (by omega) (q.X 4 23 rfl (by omega)) dX8_pass_169 ?_
            first | refine g_aload_n G dX8_pass_170 rfl ?_ | refine g_aload_nN G dX8_pass_170 rfl ?_ | refine g_aload_nQ G dX8_pass_170 rfl ?_
            refine g_getI G fl_X8_43 (q.kd) (by first | decide | omega) rfl ((q.d.trans (congrArg nI ((congrFun (mRetN_n _ t) 40).trans uN_s)))) dX8_pass_171 ?_
            refine g_icmp_lt (tgt := 180) G dX8_pass_174 (by decide) (fun c_174 => ?_) (fun c_174 => ?_)
            · have n44 : mA (mRetN (uN (mCarN M (3 * gClk M)).1 40 (mN M 40 + 1)) t) 44 t < nI (mN M 40 + 1) := c_174
              have e8 : mRet (mRetN (uN (mCarN M (3 * gClk M)).1 40 (mN M 40 + 1)) t) t = mBack (mWarn (mRetN (uN (mCarN M (3 * gClk M)).1 40 (mN M 40 + 1)) t) p) t := (if_pos ⟨n43, by rw [show mN (mRetN (uN (mCarN M (3 * gClk M)).1 40 (mN M 40 + 1)) t) 40 = mN M 40 + 1 from (congrFun (mRetN_n _ t) 40).trans uN_s]; exact n44⟩).trans (by rw [ep2])
              first | refine g_aload_n G dX8_pass_180 rfl ?_ | refine g_aload_nN G dX8_pass_180 rfl ?_ | refine g_aload_nQ G dX8_pass_180 rfl ?_
              refine g_getR G fl_X8_22 (q.kd) (by first | decide | omega) rfl (q.Y 3 rfl) dX8_pass_181 ?_
              refine g_iload_n G dX8_pass_184 rfl ?_
              refine g_iconst (v := (-1)) G dX8_pass_185 (by decide) ?_
              refine g_iast G (q.A 3 rfl) (by first | decide | omega) (q.lt 3 23 rfl (by omega)) (by omega) (rfl) dX8_pass_186 ?_
              have b1 := gBo_S 3 23 (j := t) (-1) hBt hρ rfl (by omega)
              have f1 := gFr_p (g := 3) (a := b (1 + ρ) 3) (j := t) (v := -1) F9t (by omega) (by omega)
              obtain ⟨r1, q1⟩ := id b1
              first | refine g_aload_n G dX8_pass_187 rfl ?_ | refine g_aload_nN G dX8_pass_187 rfl ?_ | refine g_aload_nQ G dX8_pass_187 rfl ?_
              refine g_getR G fl_X8_25 (q1.kd) (by first | decide | omega) rfl (q1.Y 4 rfl) dX8_pass_188 ?_
              refine g_iload_n G dX8_pass_191 rfl ?_
              refine g_iconst (v := (-1)) G dX8_pass_192 (by decide) ?_
              refine g_iast G (q1.A 4 rfl) (by first | decide | omega) (q1.lt 4 23 rfl (by omega)) (by omega) (rfl) dX8_pass_193 ?_
              have b2 := gBo_S 4 23 (j := t) (-1) b1 hρ rfl (by omega)
              have f2 := gFr_p (g := 4) (a := b (1 + ρ) 4) (j := t) (v := -1) f1 (by omega) (by omega)
              obtain ⟨r2, q2⟩ := id b2
              first | refine g_aload_n G dX8_pass_194 rfl ?_ | refine g_aload_nN G dX8_pass_194 rfl ?_ | refine g_aload_nQ G dX8_pass_194 rfl ?_
              refine g_getR G fl_X8_19 (q2.kd) (by first | decide | omega) rfl (q2.Y 2 rfl) dX8_pass_195 ?_
              refine g_iload_n G dX8_pass_198 rfl ?_
              refine g_dup2 G dX8_pass_199 rfl rfl ?_
              refine g_iald G (q2.A 2 rfl) (by first | decide | omega) (q2.lt 2 11 rfl (by omega)) (by omega) ((q2.X 2 11 rfl (by omega)).trans ((uA_f (by omega)).trans (uA_f (by omega)))) dX8_pass_200 ?_
              refine g_iconst (v := nI 1) G dX8_pass_201 (by decide) ?_
              refine g_iadd G dX8_pass_202 (rfl) ?_
              refine g_iast G (q2.A 2 rfl) (by first | decide | omega) (q2.lt 2 11 rfl (by omega)) (by omega) (rfl) dX8_pass_203 ?_
              have b3 := gBo_S 2 11 (j := p) (mA (mRetN (uN (mCarN M (3 * gClk M)).1 40 (mN M 40 + 1)) t) 42 p + nI 1) b2 hρ rfl (by omega)
              have f3 := gFr_p (g := 2) (a := b (1 + ρ) 2) (j := p) (v := mA (mRetN (uN (mCarN M (3 * gClk M)).1 40 (mN M 40 + 1)) t) 42 p + nI 1) f2 (by omega) (by omega)
              obtain ⟨r3, q3⟩ := id b3
              first | refine g_aload_n G dX8_pass_204 rfl ?_ | refine g_aload_nN G dX8_pass_204 rfl ?_ | refine g_aload_nQ G dX8_pass_204 rfl ?_
              refine g_getR G fl_X8_19 (q3.kd) (by first | decide | omega) rfl (q3.Y 2 rfl) dX8_pass_205 ?_
              refine g_iload_n G dX8_pass_208 rfl ?_
              refine g_iald G (q3.A 2 rfl) (by first | decide | omega) (q3.lt 2 11 rfl (by omega)) (by omega) ((q3.X 2 11 rfl (by omega)).trans uA_s) dX8_pass_209 ?_
              refine g_iconst (v := nI 3) G dX8_pass_210 (by decide) ?_
              refine g_icmp_ge (tgt := 217) G dX8_pass_211 (by decide) (fun c_211 => ?_) (fun c_211 => ?_)
              · have n3 : ¬ mA (mRetN (uN (mCarN M (3 * gClk M)).1 40 (mN M 40 + 1)) t) 42 p + nI 1 < nI 3 := Int32.not_lt.mpr c_211
                first | refine g_aload_n G dX8_pass_217 rfl ?_ | refine g_aload_nN G dX8_pass_217 rfl ?_ | refine g_aload_nQ G dX8_pass_217 rfl ?_
                refine g_getR G fl_X8_19 (q3.kd) (by first | decide | omega) rfl (q3.Y 2 rfl) dX8_pass_218 ?_
                refine g_iload_n G dX8_pass_221 rfl ?_
                refine g_iconst (v := nI 0) G dX8_pass_222 (by decide) ?_
                refine g_iast G (q3.A 2 rfl) (by first | decide | omega) (q3.lt 2 11 rfl (by omega)) (by omega) (rfl) dX8_pass_223 ?_
                have b4 := gBo_S 2 11 (j := p) (nI 0) b3 hρ rfl (by omega)
                have f4 := gFr_p (g := 2) (a := b (1 + ρ) 2) (j := p) (v := nI 0) f3 (by omega) (by omega)
                obtain ⟨r4, q4⟩ := id b4
                first | refine g_aload_n G dX8_pass_224 rfl ?_ | refine g_aload_nN G dX8_pass_224 rfl ?_ | refine g_aload_nQ G dX8_pass_224 rfl ?_
                refine g_getR G fl_X8_15 (q4.kd) (by first | decide | omega) rfl (q4.Y 1 rfl) dX8_pass_225 ?_
                refine g_iload_n G dX8_pass_228 rfl ?_
                refine g_iconst (v := nI 0) G dX8_pass_229 (by decide) ?_
                first | refine g_aload_n G dX8_pass_230 rfl ?_ | refine g_aload_nN G dX8_pass_230 rfl ?_ | refine g_aload_nQ G dX8_pass_230 rfl ?_
                refine g_getR G fl_X8_15 (q4.kd) (by first | decide | omega) rfl (q4.Y 1 rfl) dX8_pass_231 ?_
                refine g_iload_n G dX8_pass_234 rfl ?_
                refine g_iald G (q4.A 1 rfl) (by first | decide | omega) (q4.lt 1 11 rfl (by omega)) (by omega) ((q4.X 1 11 rfl (by omega)).trans ((uA_f (by omega)).trans ((uA_f (by omega)).trans ((uA_f (by omega)).trans (uA_f (by omega)))))) dX8_pass_235 ?_
                refine g_iconst (v := nI 1) G dX8_pass_236 (by decide) ?_
                refine g_isub G dX8_pass_237 (rfl) ?_
                refine g_mmax G ml_X8_98 (by decide) (by omega) (by omega) (Nat.le_of_ble_eq_true rfl) (rfl) dX8_pass_238 ?_
                refine g_iast G (q4.A 1 rfl) (by first | decide | omega) (q4.lt 1 11 rfl (by omega)) (by omega) (rfl) dX8_pass_241 ?_
                have b5 := gBo_S 1 11 (j := p) (if nI 0 < mA (mRetN (uN (mCarN M (3 * gClk M)).1 40 (mN M 40 + 1)) t) 41 p - nI 1 then mA (mRetN (uN (mCarN M (3 * gClk M)).1 40 (mN M 40 + 1)) t) 41 p - nI 1 else nI 0) b4 hρ rfl (by omega)
                have f5 := gFr_p (g := 1) (a := b (1 + ρ) 1) (j := p) (v := if nI 0 < mA (mRetN (uN (mCarN M (3 * gClk M)).1 40 (mN M 40 + 1)) t) 41 p - nI 1 then mA (mRetN (uN (mCarN M (3 * gClk M)).1 40 (mN M 40 + 1)) t) 41 p - nI 1 else nI 0) f4 (by omega) (by omega)
                have e9 : mRetN (uN (mCarN M (3 * gClk M)).1 40 (mN M 40 + 1)) (t + 1) = mRet (mRetN (uN (mCarN M (3 * gClk M)).1 40 (mN M 40 + 1)) t) t := rfl
                have h9 := b5
                rw [uA_same, uA_comm (f := 44) (g := 40 + 2) (by omega), uA_comm (f := 43) (g := 40 + 2) (by omega), uA_comm (f := 44) (g := 40 + 1) (by omega), uA_comm (f := 43) (g := 40 + 1) (by omega)] at h9
                have h9 := gBo_to (M9 := mRetN (uN (mCarN M (3 * gClk M)).1 40 (mN M 40 + 1)) (t + 1)) h9 (by
                  rw [e9, e8]
                  unfold mBack mWarn
                  rw [if_neg n3])
                have F10 := f5
                refine g_iinc (v := _) G dX8_pass_242 rfl (by first | exact nI_1 _ | rfl) (gSt_2 (by first | rfl | exact g_c1_rf)) ?_
                refine g_goto (tgt := 141) G dX8_pass_245 (by decide) ?_
                exact ih2 (t + 1) _ (by omega) (by omega) _ _ ⟨h9, F10⟩
              · have e9 : mRetN (uN (mCarN M (3 * gClk M)).1 40 (mN M 40 + 1)) (t + 1) = mRet (mRetN (uN (mCarN M (3 * gClk M)).1 40 (mN M 40 + 1)) t) t := rfl
                have n3 : mA (mRetN (uN (mCarN M (3 * gClk M)).1 40 (mN M 40 + 1)) t) 42 p + nI 1 < nI 3 := Int32.not_le.mp c_211
                have h9 : gBo (sX (sX (sX Sv (17 + 32 * (60 + 10 * ρ + 3)) (b (1 + ρ) 3) t (-1)) (17 + 32 * (60 + 10 * ρ + 4)) (b (1 + ρ) 4) t (-1)) (17 + 32 * (60 + 10 * ρ + 2)) (b (1 + ρ) 2) p (mA (mRetN (uN (mCarN M (3 * gClk M)).1 40 (mN M 40 + 1)) t) 42 p + nI 1)) y s ρ b (mRetN (uN (mCarN M (3 * gClk M)).1 40 (mN M 40 + 1)) (t + 1)) := by
                  rw [e9, e8]
                  have z := b3
                  rw [uA_comm (f := 44) (g := 40 + 2) (by omega), uA_comm (f := 43) (g := 40 + 2) (by omega)] at z
                  unfold mBack mWarn
                  rw [if_pos n3]
                  exact z
                have F10 := f3
                refine g_goto (tgt := 242) G dX8_pass_214 (by decide) ?_
                refine g_iinc (v := _) G dX8_pass_242 rfl (by first | exact nI_1 _ | rfl) (gSt_2 (by first | rfl | exact g_c1_rf)) ?_
                refine g_goto (tgt := 141) G dX8_pass_245 (by decide) ?_
                exact ih2 (t + 1) _ (by omega) (by omega) _ _ ⟨h9, F10⟩
            · have e9 : mRetN (uN (mCarN M (3 * gClk M)).1 40 (mN M 40 + 1)) (t + 1) = mRet (mRetN (uN (mCarN M (3 * gClk M)).1 40 (mN M 40 + 1)) t) t := rfl
              have h9 : gBo Sv y s ρ b (mRetN (uN (mCarN M (3 * gClk M)).1 40 (mN M 40 + 1)) (t + 1)) := by
                rw [e9, show mRet (mRetN (uN (mCarN M (3 * gClk M)).1 40 (mN M 40 + 1)) t) t = (mRetN (uN (mCarN M (3 * gClk M)).1 40 (mN M 40 + 1)) t) from if_neg (fun z => c_174 (by have y9 := z.2; rw [show mN (mRetN (uN (mCarN M (3 * gClk M)).1 40 (mN M 40 + 1)) t) 40 = mN M 40 + 1 from (congrFun (mRetN_n _ t) 40).trans uN_s] at y9; exact y9))]
                exact hBt
              have F10 := F9t
              refine g_goto (tgt := 242) G dX8_pass_177 (by decide) ?_
              refine g_iinc (v := _) G dX8_pass_242 rfl (by first | exact nI_1 _ | rfl) (gSt_2 (by first | rfl | exact g_c1_rf)) ?_
              refine g_goto (tgt := 141) G dX8_pass_245 (by decide) ?_
              exact ih2 (t + 1) _ (by omega) (by omega) _ _ ⟨h9, F10⟩
    exact loop141 (mN M 11 + 1) 0 _ (by omega) (by omega) _ _ ⟨h2, F2⟩
  refine g_iconst (v := nI 0) G dX8_pass_0 (by decide) ?_
  refine g_istore_n G dX8_pass_1 (gSt_1 (by first | rfl | exact g_c1_rf)) ?_
  refine g_iconst (v := nI 3) G dX8_pass_2 (by decide) ?_
  first | refine g_aload_n G dX8_pass_3 rfl ?_ | refine g_aload_nN G dX8_pass_3 rfl ?_ | refine g_aload_nQ G dX8_pass_3 rfl ?_
  refine g_getR G fl_X8_3 (q.kd) (by first | decide | omega) rfl (q.md) dX8_pass_4 ?_
  refine g_callVNp (ci := 10) G (c_X9_clerks _ _ _ _ _ r i) mt_X9_clerks mi_X9_clerks ml_X8_75 (r.kd) (by first | decide | omega) rfl (by decide) (by omega) (by omega) rfl (Nat.le_of_ble_eq_true rfl) dX8_pass_7 ?_
  refine g_imul G dX8_pass_10 (by first | exact pk_mul _ _ | rfl) ?_
  refine g_istore_n G dX8_pass_11 (gSt_2 (by first | rfl | exact g_c1_rf)) ?_
  have loop12 : ∀ f2 t : Nat, ∀ St : gS, t ≤ (3 * gClk M) → (3 * gClk M) + 1 ≤ t + f2 → ∀ w3 w4 : Option Value, (gBo St y s ρ b (mCarN M t).1 ∧ gFr (gPk ρ) S St) → gW Γ 12 [some (.ref s), some (.int (nI (mCarN M (t)).2)), some (.int (nI ((3 * gClk M) - t))), w3, w4] [] St 0 0 := by
    intro f2
    induction f2 with
    | zero => intro t St  q1 q2; omega
    | succ f2 ih2 =>
      intro t St  ht2 hf2 w3 w4 hv2
      obtain ⟨hB, F9⟩ := hv2
      obtain ⟨r, q⟩ := id hB
      have en := mCarN_n M t
      have it := gInv_carN i t
      refine g_iload_n G dX8_pass_12 rfl ?_
      refine g_if_le (tgt := 129) G dX8_pass_13 (by decide) (fun c_13 => ?_) (fun c_13 => ?_)
      · have et : t = (3 * gClk M) := by
          have z : ¬ 0 < (3 * gClk M) - t := fun z => absurd (nI_lt (a := 0) z (by omega)) (Int32.not_lt.mpr c_13)
          omega
        subst et
        exact ph2 St _ _ _ hB F9
      · have hlt2 : t < (3 * gClk M) := by
          have z : ¬ (3 * gClk M) - t = 0 := fun z => c_13 (by rw [z]; decide)
          omega
        first | refine g_aload_n G dX8_pass_16 rfl ?_ | refine g_aload_nN G dX8_pass_16 rfl ?_ | refine g_aload_nQ G dX8_pass_16 rfl ?_
        refine g_callVp (ci := 9) G (c_X8_next _ _ _ _ _ _ _ r q it) mt_X8_next mi_X8_next ml_X8_79 (q.kd) (by first | decide | omega) rfl (by decide) (by omega) (by omega) rfl (Nat.le_of_ble_eq_true rfl) dX8_pass_17 ?_
        cases en9 : gNx (mCarN M t).1 (mN (mCarN M t).1 23) with
        | none =>
          have hn : gNx (mCarN M t).1 (mN M 23) = none := by rw [← congrFun en 23]; exact en9
          have e9 := mCarN_stop hn ((3 * gClk M) - t)
          rw [show t + ((3 * gClk M) - t) = (3 * gClk M) by omega] at e9
          refine g_istore_n G dX8_pass_20 (gSt_3 (by first | rfl | exact g_c1_rf)) ?_
          refine g_iload_n G dX8_pass_21 rfl ?_
          refine g_iconst (v := (-1)) G dX8_pass_22 (by decide) ?_
          refine g_icmp_ne (tgt := 29) G dX8_pass_23 (by decide) (fun c_23 => (absurd rfl c_23)) (fun c_23 => ?_)
          refine g_goto (tgt := 129) G dX8_pass_26 (by decide) ?_
          have h9 := fun v2 w3 w4 => ph2 St v2 w3 w4 (by rw [e9]; exact hB) F9
          rw [e9] at h9
          exact h9 _ _ _
        | some k =>
          have hn : gNx (mCarN M t).1 (mN M 23) = some k := by rw [← congrFun en 23]; exact en9
          have hk : k < mN M 23 := gNx_lt hn
          have hle := mCarN_le M t
          obtain ⟨⟨d, hd0, ed⟩, p, hp0, ep⟩ := it.l (k := k) (by rw [en]; exact hk)
          have hd2 : d < mN M 11 := by rw [en] at hd0; exact hd0
          have hp : p < mN M 8 := by rw [en] at hp0; exact hp0
          obtain ⟨c, hc0, ecc⟩ := it.c (d := d) (by rw [en]; exact hd2)
          have hc : c < mN M 6 := by rw [en] at hc0; exact hc0
          have e_d : gLd (mCarN M t).1 k = d := by rw [gLd, ed, nI_clamp (by omega)]
          have e_p : gLp (mCarN M t).1 k = p := by rw [gLp, ep, nI_clamp (by omega)]
          have e_c : mC (mCarN M t).1 d = c := by rw [mC, ecc, nI_clamp (by omega)]
          refine g_istore_n G dX8_pass_20 (gSt_3 (by first | rfl | exact g_c1_rf)) ?_
          refine g_iload_n G dX8_pass_21 rfl ?_
          refine g_iconst (v := (-1)) G dX8_pass_22 (by decide) ?_
          refine g_icmp_ne (tgt := 29) G dX8_pass_23 (by decide) (fun c_23 => ?_) (fun c_23 => (absurd (show nI k < 0 by rw [show nI k = -1 from c_23]; decide) (nI_pos (by omega))))
          first | refine g_aload_n G dX8_pass_29 rfl ?_ | refine g_aload_nN G dX8_pass_29 rfl ?_ | refine g_aload_nQ G dX8_pass_29 rfl ?_
          first | refine g_aload_n G dX8_pass_30 rfl ?_ | refine g_aload_nN G dX8_pass_30 rfl ?_ | refine g_aload_nQ G dX8_pass_30 rfl ?_
          refine g_getR G fl_X8_3 (q.kd) (by first | decide | omega) rfl (q.md) dX8_pass_31 ?_
          refine g_getRN G fl_X8_82 (r.kd) (by first | decide | omega) rfl (r.Y 25 rfl) dX8_pass_34 ?_
          refine g_iload_n G dX8_pass_37 rfl ?_
          refine g_iald G (r.A 25 rfl) (by first | decide | omega) (r.lt 25 39 rfl (by omega)) (by omega) ((r.X 25 39 rfl rfl (by omega)).trans ep) dX8_pass_38 ?_
          first | refine g_aload_n G dX8_pass_39 rfl ?_ | refine g_aload_nN G dX8_pass_39 rfl ?_ | refine g_aload_nQ G dX8_pass_39 rfl ?_
          refine g_getR G fl_X8_3 (q.kd) (by first | decide | omega) rfl (q.md) dX8_pass_40 ?_
          refine g_getRN G fl_X8_85 (r.kd) (by first | decide | omega) rfl (r.Y 12 rfl) dX8_pass_43 ?_
          first | refine g_aload_n G dX8_pass_46 rfl ?_ | refine g_aload_nN G dX8_pass_46 rfl ?_ | refine g_aload_nQ G dX8_pass_46 rfl ?_
          refine g_getR G fl_X8_3 (q.kd) (by first | decide | omega) rfl (q.md) dX8_pass_47 ?_
          refine g_getRN G fl_X8_88 (r.kd) (by first | decide | omega) rfl (r.Y 24 rfl) dX8_pass_50 ?_
          refine g_iload_n G dX8_pass_53 rfl ?_
          refine g_iald G (r.A 24 rfl) (by first | decide | omega) (r.lt 24 39 rfl (by omega)) (by omega) ((r.X 24 39 rfl rfl (by omega)).trans ed) dX8_pass_54 ?_
          refine g_iald G (r.A 12 rfl) (by first | decide | omega) (r.lt 12 23 rfl (by omega)) (by omega) ((r.X 12 23 rfl rfl (by omega)).trans ecc) dX8_pass_55 ?_
          refine g_callVp (ci := 9) G (c_X8_isIn _ _ _ _ _ _ _ r q it p c (by rw [en]; exact hp) (by rw [en]; exact hc)) mt_X8_isIn mi_X8_isIn ml_X8_91 (q.kd) (by first | decide | omega) rfl (by decide) (by omega) (by omega) rfl (Nat.le_of_ble_eq_true rfl) dX8_pass_56 ?_
          refine g_istore G dX8_pass_59 (gSt_4 (by first | rfl | exact g_c1_rf)) ?_
          first | refine g_aload_n G dX8_pass_61 rfl ?_ | refine g_aload_nN G dX8_pass_61 rfl ?_ | refine g_aload_nQ G dX8_pass_61 rfl ?_
          refine g_getR G fl_X8_31 (q.kd) (by first | decide | omega) rfl (q.Y 6 rfl) dX8_pass_62 ?_
          refine g_iload_n G dX8_pass_65 rfl ?_
          refine g_iload G dX8_pass_66 rfl ?_
          refine g_if_eq (tgt := 75) G dX8_pass_68 (by decide) (fun c_68 => ?_) (fun c_68 => ?_)
          · have c_59z : gB (decide (mA (mCarN M t).1 7 c ≤ gReachOf (mCarN M t).1 p c)) = 0 := c_68
            have e8 : gSee (mCarN M t).1 k = false := by unfold gSee; rw [e_d, e_p, e_c]; exact gB_eq0.mp c_68
            refine g_iconst (v := nI 2) G dX8_pass_75 (by decide) ?_
            refine g_iast G (q.A 6 rfl) (by first | decide | omega) (q.lt 6 39 rfl (by omega)) (by omega) (rfl) dX8_pass_76 ?_
            have b1 := gBo_S 6 39 (j := k) (nI 2) hB hρ rfl (by omega)
            have f1 := gFr_p (g := 6) (a := b (1 + ρ) 6) (j := k) (v := nI 2) F9 (by omega) (by omega)
            obtain ⟨r1, q1⟩ := id b1
            first | refine g_aload_n G dX8_pass_77 rfl ?_ | refine g_aload_nN G dX8_pass_77 rfl ?_ | refine g_aload_nQ G dX8_pass_77 rfl ?_
            refine g_getR G fl_X8_34 (q1.kd) (by first | decide | omega) rfl (q1.Y 7 rfl) dX8_pass_78 ?_
            refine g_iload_n G dX8_pass_81 rfl ?_
            first | refine g_aload_n G dX8_pass_82 rfl ?_ | refine g_aload_nN G dX8_pass_82 rfl ?_ | refine g_aload_nQ G dX8_pass_82 rfl ?_
            refine g_getI G fl_X8_43 (q1.kd) (by first | decide | omega) rfl (q1.d) dX8_pass_83 ?_
            refine g_iast G (q1.A 7 rfl) (by first | decide | omega) (q1.lt 7 39 rfl (by omega)) (by omega) (rfl) dX8_pass_86 ?_
            have b2 := gBo_S 7 39 (j := k) (nI (mN (mCarN M t).1 40)) b1 hρ rfl (by omega)
            have f2 := gFr_p (g := 7) (a := b (1 + ρ) 7) (j := k) (v := nI (mN (mCarN M t).1 40)) f1 (by omega) (by omega)
            obtain ⟨r2, q2⟩ := id b2
            have h9 := gBo_to (M9 := (mCarN M (t + 1)).1) b2 (by
              rw [mCarN_some hn]
              unfold mCarry
              rw [if_neg (by rw [e8]; decide), uA_comm (f := 40 + 6) (g := 40 + 7) (by omega)])
            have e9 : (mCarN M (t + 1)).2 = (mCarN M t).2 := by rw [mCarN_some hn, e8]; rfl
            refine g_iload G dX8_pass_87 rfl ?_
            refine g_if_eq (tgt := 123) G dX8_pass_89 (by decide) (fun c_89 => ?_) (fun c_89 => (absurd c_59z c_89))
            refine g_iinc (v := nI (3 * gClk M - (t + 1))) G dX8_pass_123 rfl (by rw [show Int32.ofInt (-1) = -1 by decide, show 3 * gClk M - (t + 1) = 3 * gClk M - t - 1 by omega]; exact nI_m1 (by omega)) (gSt_2 (by first | rfl | exact g_c1_rf)) ?_
            refine g_goto (tgt := 12) G dX8_pass_126 (by decide) ?_
            have h9 := fun w3 w4 => ih2 (t + 1) _ (by omega) (by omega) w3 w4 ⟨h9, f2⟩
            rw [e9] at h9
            exact h9 _ _
          · have c_59z : ¬ gB (decide (mA (mCarN M t).1 7 c ≤ gReachOf (mCarN M t).1 p c)) = 0 := c_68
            have e8 : gSee (mCarN M t).1 k = true := by unfold gSee; rw [e_d, e_p, e_c]; exact gB_ne0.mp c_68
            refine g_iconst (v := nI 1) G dX8_pass_71 (by decide) ?_
            refine g_goto (tgt := 76) G dX8_pass_72 (by decide) ?_
            refine g_iast G (q.A 6 rfl) (by first | decide | omega) (q.lt 6 39 rfl (by omega)) (by omega) (rfl) dX8_pass_76 ?_
            have b1 := gBo_S 6 39 (j := k) (nI 1) hB hρ rfl (by omega)
            have f1 := gFr_p (g := 6) (a := b (1 + ρ) 6) (j := k) (v := nI 1) F9 (by omega) (by omega)
            obtain ⟨r1, q1⟩ := id b1
            first | refine g_aload_n G dX8_pass_77 rfl ?_ | refine g_aload_nN G dX8_pass_77 rfl ?_ | refine g_aload_nQ G dX8_pass_77 rfl ?_
            refine g_getR G fl_X8_34 (q1.kd) (by first | decide | omega) rfl (q1.Y 7 rfl) dX8_pass_78 ?_
            refine g_iload_n G dX8_pass_81 rfl ?_
            first | refine g_aload_n G dX8_pass_82 rfl ?_ | refine g_aload_nN G dX8_pass_82 rfl ?_ | refine g_aload_nQ G dX8_pass_82 rfl ?_
            refine g_getI G fl_X8_43 (q1.kd) (by first | decide | omega) rfl (q1.d) dX8_pass_83 ?_
            refine g_iast G (q1.A 7 rfl) (by first | decide | omega) (q1.lt 7 39 rfl (by omega)) (by omega) (rfl) dX8_pass_86 ?_
            have b2 := gBo_S 7 39 (j := k) (nI (mN (mCarN M t).1 40)) b1 hρ rfl (by omega)
            have f2 := gFr_p (g := 7) (a := b (1 + ρ) 7) (j := k) (v := nI (mN (mCarN M t).1 40)) f1 (by omega) (by omega)
            obtain ⟨r2, q2⟩ := id b2
            refine g_iload G dX8_pass_87 rfl ?_
            refine g_if_eq (tgt := 123) G dX8_pass_89 (by decide) (fun c_89 => (absurd c_89 c_59z)) (fun c_89 => ?_)
            first | refine g_aload_n G dX8_pass_92 rfl ?_ | refine g_aload_nN G dX8_pass_92 rfl ?_ | refine g_aload_nQ G dX8_pass_92 rfl ?_
            refine g_getR G fl_X8_28 (q2.kd) (by first | decide | omega) rfl (q2.Y 5 rfl) dX8_pass_93 ?_
            first | refine g_aload_n G dX8_pass_96 rfl ?_ | refine g_aload_nN G dX8_pass_96 rfl ?_ | refine g_aload_nQ G dX8_pass_96 rfl ?_
            refine g_getR G fl_X8_3 (q2.kd) (by first | decide | omega) rfl (q2.md) dX8_pass_97 ?_
            refine g_getRN G fl_X8_88 (r2.kd) (by first | decide | omega) rfl (r2.Y 24 rfl) dX8_pass_100 ?_
            refine g_iload_n G dX8_pass_103 rfl ?_
            refine g_iald G (r2.A 24 rfl) (by first | decide | omega) (r2.lt 24 39 rfl (by omega)) (by omega) ((show gX _ (17 + 32 * (10 + 24)) _ k = nI d from (r2.X 24 39 rfl rfl (by omega)).trans ed)) dX8_pass_104 ?_
            refine g_dup2 G dX8_pass_105 rfl rfl ?_
            refine g_iald G (q2.A 5 rfl) (by first | decide | omega) (q2.lt 5 23 rfl (by omega)) (by omega) ((show gX _ (17 + 32 * (60 + 10 * ρ + 5)) _ d = mA (mCarN M t).1 45 d from q2.X 5 23 rfl (by omega))) dX8_pass_106 ?_
            refine g_iconst (v := nI 1) G dX8_pass_107 (by decide) ?_
            first | refine g_aload_n G dX8_pass_108 rfl ?_ | refine g_aload_nN G dX8_pass_108 rfl ?_ | refine g_aload_nQ G dX8_pass_108 rfl ?_
            refine g_getR G fl_X8_3 (q2.kd) (by first | decide | omega) rfl (q2.md) dX8_pass_109 ?_
            refine g_getRN G fl_X8_82 (r2.kd) (by first | decide | omega) rfl (r2.Y 25 rfl) dX8_pass_112 ?_
            refine g_iload_n G dX8_pass_115 rfl ?_
            refine g_iald G (r2.A 25 rfl) (by first | decide | omega) (r2.lt 25 39 rfl (by omega)) (by omega) ((show gX _ (17 + 32 * (10 + 25)) _ k = nI p from (r2.X 25 39 rfl rfl (by omega)).trans ep)) dX8_pass_116 ?_
            refine g_ishl G dX8_pass_117 (rfl) ?_
            refine g_ior G dX8_pass_118 (rfl) ?_
            refine g_iast G (q2.A 5 rfl) (by first | decide | omega) (q2.lt 5 23 rfl (by omega)) (by omega) (rfl) dX8_pass_119 ?_
            have b3 := gBo_S 5 23 (j := d) (mA (mCarN M t).1 45 d ||| (nI 1 <<< (nI p &&& 31))) b2 hρ rfl (by omega)
            have f3 := gFr_p (g := 5) (a := b (1 + ρ) 5) (j := d) (v := mA (mCarN M t).1 45 d ||| (nI 1 <<< (nI p &&& 31))) f2 (by omega) (by omega)
            have h9 := gBo_to (M9 := (mCarN M (t + 1)).1) b3 (by
              rw [mCarN_some hn]
              unfold mCarry
              rw [if_pos e8, e_d, e_p, uA_comm (f := 40 + 6) (g := 40 + 7) (by omega)]
              rfl)
            have e9 : (mCarN M (t + 1)).2 = (mCarN M t).2 + 1 := by rw [mCarN_some hn, e8]; rfl
            refine g_iinc (v := _) G dX8_pass_120 rfl (by first | exact nI_1 _ | rfl) (gSt_1 (by first | rfl | exact g_c1_rf)) ?_
            refine g_iinc (v := nI (3 * gClk M - (t + 1))) G dX8_pass_123 rfl (by rw [show Int32.ofInt (-1) = -1 by decide, show 3 * gClk M - (t + 1) = 3 * gClk M - t - 1 by omega]; exact nI_m1 (by omega)) (gSt_2 (by first | rfl | exact g_c1_rf)) ?_
            refine g_goto (tgt := 12) G dX8_pass_126 (by decide) ?_
            have h9 := fun w3 w4 => ih2 (t + 1) _ (by omega) (by omega) w3 w4 ⟨h9, f3⟩
            rw [e9] at h9
            exact h9 _ _
  exact loop12 ((3 * gClk M) + 1) 0 _ (by omega) (by omega) _ _ ⟨⟨r, q⟩, gFr.rf S⟩
