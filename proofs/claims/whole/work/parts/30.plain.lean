/-! ===== a quotient of small numbers is a number ===== -/
theorem fp_tails : FP.Core.Fmt.tails FP.Core.b64 = 4503599627370496 := by decide +kernel
theorem fp_exps : FP.Core.Fmt.exps FP.Core.b64 = 2048 := by decide +kernel
theorem fp_qmin : FP.Core.Fmt.qmin FP.Core.b64 = -1074 := by decide +kernel
theorem fp_qmax : FP.Core.Fmt.qmax FP.Core.b64 = 971 := by decide +kernel
theorem fp_enc_f {c : Nat} {q : Int} : FP.Core.encode FP.Core.b64 (.fin false c q) = if c < 4503599627370496 then c else ((q + 1074).toNat + 1) * 4503599627370496 + (c - 4503599627370496) := by
  show (if c < FP.Core.Fmt.tails FP.Core.b64 then FP.Core.assemble FP.Core.b64 false 0 c else FP.Core.assemble FP.Core.b64 false ((q - FP.Core.Fmt.qmin FP.Core.b64).toNat + 1) (c - FP.Core.Fmt.tails FP.Core.b64)) = _
  unfold FP.Core.assemble
  rw [fp_tails, fp_exps, fp_qmin, show (false : Bool).toNat = 0 from rfl, show q - (-1074) = q + 1074 by omega]
  split
  · omega
  · omega
theorem fp_enc_b {c : Nat} {q : Int} (hc : c < 9007199254740992) (h1 : -1074 ≤ q) : FP.Core.encode FP.Core.b64 (FP.Core.bound FP.Core.b64 false c q) ≤ 9218868437227405312 := by
  unfold FP.Core.bound
  rw [fp_qmax]
  by_cases h : q ≤ 971
  · rw [if_pos h, fp_enc_f]
    split
    · omega
    · have h2 : (q + 1074).toNat ≤ 2045 := by omega
      omega
  · rw [if_neg h]
    decide +kernel
theorem fp_enc_r (num den : Nat) (e : Int) : FP.Core.encode FP.Core.b64 (FP.Core.roundRatio FP.Core.b64 false num den e) ≤ 9218868437227405312 := by
  unfold FP.Core.roundRatio
  by_cases h : num = 0
  · rw [if_pos h]
    decide +kernel
  · rw [if_neg h]
    unfold FP.Core.roundAt FP.Core.settle
    have hq : -1074 ≤ FP.Core.quantum FP.Core.b64 num den e := by
      unfold FP.Core.quantum
      rw [fp_qmin]
      exact Int.le_max_left _ _
    split
    · next h2 => exact fp_enc_b h2 hq
    · rw [fp_tails]
      exact fp_enc_b (by omega) (by omega)
theorem fp_nn (n : Nat) (h : n ≤ 9218868437227405312) : vf_n64 (UInt64.ofNat n) := by
  unfold vf_n64
  rw [UInt64.le_iff_toNat_le, UInt64.toNat_and, show (UInt64.ofNat n).toNat = n % 2 ^ 64 from rfl, Nat.mod_eq_of_lt (by omega)]
  exact Nat.le_trans Nat.and_le_left h
theorem fp_dec {x : Nat} (hx : x < 9218868437227405312) : ∃ c q, FP.Core.decode FP.Core.b64 x = .fin false c q ∧ (x ≠ 0 → c ≠ 0) := by
  have hE : FP.Core.fieldE FP.Core.b64 x = x / 4503599627370496 := by
    unfold FP.Core.fieldE
    rw [fp_tails, fp_exps]
    omega
  have hS : FP.Core.fieldS FP.Core.b64 x = false := by
    unfold FP.Core.fieldS
    rw [fp_tails, fp_exps, show x / 4503599627370496 / 2048 % 2 = 0 by omega]
    rfl
  have hT : FP.Core.fieldT FP.Core.b64 x = x % 4503599627370496 := by
    unfold FP.Core.fieldT
    rw [fp_tails]
  unfold FP.Core.decode
  rw [hE, hS, hT, fp_exps, fp_tails, if_neg (by omega)]
  by_cases h : x / 4503599627370496 = 0
  · rw [if_pos h]
    exact ⟨_, _, rfl, fun z => by omega⟩
  · rw [if_neg h]
    exact ⟨_, _, rfl, fun z => by omega⟩
theorem fp_i2d {n : Nat} (h0 : 1 ≤ n) (h1 : n < 65536) : ∃ x, FP.i2d (nI n) = UInt64.ofNat x ∧ x < 9218868437227405312 ∧ x ≠ 0 := by
  refine ⟨FP.Core.fromInt FP.Core.b64 (nI n).toInt, rfl, ?_⟩
  rw [nI_toInt (by omega)]
  show FP.Core.encode FP.Core.b64 (FP.Core.roundRatio FP.Core.b64 (decide ((n : Int) < 0)) (n : Int).natAbs 1 0) < _ ∧ FP.Core.encode FP.Core.b64 (FP.Core.roundRatio FP.Core.b64 (decide ((n : Int) < 0)) (n : Int).natAbs 1 0) ≠ 0
  rw [show decide ((n : Int) < 0) = false from decide_eq_false (by omega), Int.natAbs_natCast]
  have hk1 : n.log2 < 16 := by
    have := (Nat.log2_lt (n := n) (k := 16) (by omega)).mpr (by omega)
    exact this
  have hk2 : 2 ^ n.log2 ≤ n := Nat.log2_self_le (by omega)
  have hk3 : n < 2 ^ (n.log2 + 1) := Nat.lt_log2_self
  have hl : FP.Core.leading n 1 = (n.log2 : Int) := by
    unfold FP.Core.leading
    rw [show Nat.log2 1 = 0 from by decide +kernel]
    show (if 1 * 2 ^ ((n.log2 : Int) - ((0 : Nat) : Int)).toNat ≤ n * 2 ^ (-((n.log2 : Int) - ((0 : Nat) : Int))).toNat then (n.log2 : Int) - ((0 : Nat) : Int) else (n.log2 : Int) - ((0 : Nat) : Int) - 1) = _
    rw [show ((n.log2 : Int) - ((0 : Nat) : Int)).toNat = n.log2 by omega, show (-((n.log2 : Int) - ((0 : Nat) : Int))).toNat = 0 by omega, if_pos (by omega)]
    omega
  have hq : FP.Core.quantum FP.Core.b64 n 1 0 = (n.log2 : Int) - 52 := by
    unfold FP.Core.quantum
    rw [hl, fp_qmin, show ((FP.Core.b64.p : Nat) : Int) = 53 from rfl]
    omega
  unfold FP.Core.roundRatio
  rw [if_neg (by omega), hq]
  unfold FP.Core.roundAt FP.Core.unitsNum FP.Core.unitsDen
  rw [show (0 - ((n.log2 : Int) - 52)).toNat = 52 - n.log2 by omega, show ((n.log2 : Int) - 52 - 0).toNat = 0 by omega, show 1 * 2 ^ 0 = 1 from rfl]
  have hm1 : 4503599627370496 ≤ n * 2 ^ (52 - n.log2) := by
    have := Nat.mul_le_mul_right (2 ^ (52 - n.log2)) hk2
    rw [← Nat.pow_add, show n.log2 + (52 - n.log2) = 52 by omega] at this
    exact this
  have hm2 : n * 2 ^ (52 - n.log2) < 9007199254740992 := by
    have := Nat.mul_lt_mul_of_pos_right hk3 (Nat.two_pow_pos (52 - n.log2))
    rw [← Nat.pow_add, show n.log2 + 1 + (52 - n.log2) = 53 by omega] at this
    exact this
  generalize n * 2 ^ (52 - n.log2) = m at hm1 hm2
  have hn : FP.Core.nearest m 1 = m := by
    unfold FP.Core.nearest
    rw [if_pos (by omega), Nat.div_one]
  rw [hn]
  unfold FP.Core.settle
  rw [if_pos (show m < 2 ^ FP.Core.b64.p from hm2)]
  unfold FP.Core.bound
  rw [fp_qmax, if_pos (by omega), fp_enc_f, if_neg (by omega)]
  omega
theorem vf_plain {a b : Nat} (ha : a < 65536) (h0 : 1 ≤ b) (hb : b < 65536) : vf_n64 (FP.ddiv (FP.i2d (nI a)) (FP.i2d (nI b))) := by
  obtain ⟨x, hx, hx1, hx2⟩ := fp_i2d h0 hb
  obtain ⟨y, hy, hy1⟩ : ∃ y, FP.i2d (nI a) = UInt64.ofNat y ∧ y < 9218868437227405312 := by
    by_cases h : a = 0
    · subst h
      exact ⟨0, by decide +kernel, by omega⟩
    · obtain ⟨y, h1, h2, h3⟩ := fp_i2d (n := a) (by omega) ha
      exact ⟨y, h1, h2⟩
  rw [hx, hy]
  show vf_n64 (UInt64.ofNat (FP.Core.encode FP.Core.b64 (FP.Core.quotient FP.Core.b64 (FP.Core.decode FP.Core.b64 (y % 2 ^ 64)) (FP.Core.decode FP.Core.b64 (x % 2 ^ 64)))))
  rw [Nat.mod_eq_of_lt (by omega), Nat.mod_eq_of_lt (by omega)]
  obtain ⟨c, q, e1, -⟩ := fp_dec hy1
  obtain ⟨d, r, e2, h2⟩ := fp_dec hx1
  rw [e1, e2]
  refine fp_nn _ ?_
  show FP.Core.encode FP.Core.b64 (if d = 0 then (if c = 0 then .nan else .inf (false != false)) else FP.Core.roundRatio FP.Core.b64 (false != false) c d (q - r)) ≤ _
  rw [if_neg (h2 hx2)]
  exact fp_enc_r _ _ _
def gAll (M : gM) : Nat → Nat
  | 0 => 0
  | n + 1 => gAll M n + mN M (100 + n)
def gVei (M : gM) : Nat → Nat
  | 0 => 0
  | n + 1 => gVei M n + gct (fun k => decide (0 < mT M 14 n k)) (mN M (100 + n))
theorem gVei_le (M : gM) : ∀ n, gVei M n ≤ gAll M n
  | 0 => Nat.le_refl 0
  | n + 1 => Nat.add_le_add (gVei_le M n) (gct_le _ _)
theorem gAll_le {M : gM} : ∀ {n : Nat}, (∀ d, d < n → mN M (100 + d) ≤ 2500) → gAll M n ≤ 2500 * n
  | 0, _ => Nat.le_refl 0
  | n + 1, h => by
    have ih := gAll_le (M := M) (n := n) (fun d hd => h d (by omega))
    have := h n (by omega)
    unfold gAll
    omega
def gPlain (M : gM) : UInt64 := if gAll M (mN M 11) = 0 then FP.dconst1 else FP.ddiv (FP.i2d (nI (gAll M (mN M 11) - gVei M (mN M 11)))) (FP.i2d (nI (gAll M (mN M 11))))

set_option maxHeartbeats 4000000 in
set_option maxRecDepth 100000 in
theorem c_X7_plain (d0 : Nat × Nat) (S : gS) (x : Nat) (ad : Nat → Nat → Nat) (M : gM) (h : gMail d0 S x ad M) (hB : gBnd M) : gCt d0 yX7_plain cX7_plain 4 (some .double) 10 1 6 [.ref x] S (gRet (.double (gPlain M)) S) gNo := by
  refine gCt_of (lo := [some (.ref x), none, none, none]) (by decide +kernel) (Nat.le_of_ble_eq_true rfl) (rfl) ?_
  intro Γ hd G F hini
  obtain ⟨⟨r1, ⟨ra, rb, rc, rd, re⟩, rt, rtl, rp, rpl, rdr, rep, rday⟩, ⟨l0, l1, l2, l3, l4⟩, ht, hcs, hps, hds, hes, hls⟩ := id h
  subst hd
  have hb := hB.2.2.1
  have hL := gAll_le (M := M) (n := mN M 11) (fun d hd => (hds d hd).2.2.2.2.1)
  have hV := gVei_le M (mN M 11)
  refine g_iconst (v := nI 0) G dX7_plain_0 (by decide) ?_
  refine g_istore_n G dX7_plain_1 (gSt_1 (by first | rfl | exact g_c1_rf)) ?_
  refine g_iconst (v := nI 0) G dX7_plain_2 (by decide) ?_
  refine g_istore_n G dX7_plain_3 (gSt_2 (by first | rfl | exact g_c1_rf)) ?_
  refine g_iconst (v := nI 0) G dX7_plain_4 (by decide) ?_
  refine g_istore_n G dX7_plain_5 (gSt_3 (by first | rfl | exact g_c1_rf)) ?_
  have inner6 : ∀ f2 t : Nat, t ≤ (mN M 11) → (mN M 11) + 1 ≤ t + f2 → gW Γ 6 [some (.ref x), some (.int (nI (gAll M (t)))), some (.int (nI (gVei M (t)))), some (.int (nI (t)))] [] S 0 0 := by
    intro f2
    induction f2 with
    | zero => intro t q1 q2; omega
    | succ f2 ih2 =>
      intro t ht2 hf2 
      refine g_iload_n G dX7_plain_6 rfl ?_
      first | refine g_aload_n G dX7_plain_7 rfl ?_ | refine g_aload_nN G dX7_plain_7 rfl ?_ | refine g_aload_nQ G dX7_plain_7 rfl ?_
      first | refine g_getR G fl_X7_19 (by assumption) (by first | decide | omega) rfl (by assumption) dX7_plain_8 ?_ | refine g_getZ G fl_X7_19 (by assumption) (by first | decide | omega) rfl (by assumption) dX7_plain_8 ?_ | refine g_getQ G fl_X7_19 (by assumption) (by first | decide | omega) rfl (by first | assumption | rfl) dX7_plain_8 ?_
      refine g_callVp (ci := 0) G (c_Jx4a65c_size_8abf5 _ S (ad 5 2) 3 (mN M 11) (ad 2) l2) mt_Jx4a65c_size_8abf5 mi_Jx4a65c_size_8abf5 ml_X7_80 (l2.1) (by first | decide | omega) rfl (by decide) (by omega) (by omega) rfl (Nat.le_of_ble_eq_true rfl) dX7_plain_11 ?_
      refine g_icmp_ge (tgt := 58) G dX7_plain_14 (by decide) (fun c_14 => ?_) (fun c_14 => ?_)
      · have et : t = (mN M 11) := by have := (nI_leI (by omega) (by omega)).mp c_14; omega
        subst et
        refine g_iload_n G dX7_plain_58 rfl ?_
        refine g_if_gt (tgt := 64) G dX7_plain_59 (by decide) (fun c_59 => ?_) (fun c_59 => ?_)
        · have z0 : ¬ gAll M (mN M 11) = 0 := fun z => by rw [z] at c_59; exact absurd c_59 (by decide)
          refine g_iload_n G dX7_plain_64 rfl ?_
          refine g_iload_n G dX7_plain_65 rfl ?_
          refine g_isub G dX7_plain_66 (pk_sub hV) ?_
          refine g_i2d G dX7_plain_67 ?_
          refine g_iload_n G dX7_plain_68 rfl ?_
          refine g_i2d G dX7_plain_69 ?_
          refine g_ddiv G dX7_plain_70 (vf_plain (by omega) (by omega) (by omega)) ?_
          exact g_dret G F (⟨by unfold gPlain; rw [if_neg z0], rfl⟩) (by omega) (by omega) dX7_plain_71
        · have z0 : gAll M (mN M 11) = 0 := Classical.byContradiction (fun z => c_59 (nI_lt (a := 0) (by omega) (by omega)))
          refine g_dconst1 G dX7_plain_62 ?_
          exact g_dret G F (⟨by unfold gPlain; rw [if_pos z0], rfl⟩) (by omega) (by omega) dX7_plain_63
      · have hlt2 : t < (mN M 11) := by have z : ¬ (mN M 11) ≤ t := fun z => c_14 ((nI_leI (by omega) (by omega)).mpr z); omega
        obtain ⟨k1, ⟨kc, kc1, kc2, kc3⟩, ⟨k2, k3, k4⟩, ⟨k5, k6, k7, k8, kpr⟩, kl, ⟨t1, t2, t3⟩, k9⟩ := hds t hlt2
        refine g_iload_n G dX7_plain_17 rfl ?_
        first | refine g_aload_n G dX7_plain_18 rfl ?_ | refine g_aload_nN G dX7_plain_18 rfl ?_ | refine g_aload_nQ G dX7_plain_18 rfl ?_
        first | refine g_getR G fl_X7_19 (by assumption) (by first | decide | omega) rfl (by assumption) dX7_plain_19 ?_ | refine g_getZ G fl_X7_19 (by assumption) (by first | decide | omega) rfl (by assumption) dX7_plain_19 ?_ | refine g_getQ G fl_X7_19 (by assumption) (by first | decide | omega) rfl (by first | assumption | rfl) dX7_plain_19 ?_
        refine g_iload_n G dX7_plain_22 rfl ?_
        refine g_callVp (ci := 0) G (c_Jx4a65c_get_915e3 _ S (ad 5 2) 3 (mN M 11) t (ad 2) l2 hlt2) mt_Jx4a65c_get_915e3 mi_Jx4a65c_get_915e3 ml_X7_300 (l2.1) (by first | decide | omega) rfl (by decide) (by omega) (by omega) rfl (Nat.le_of_ble_eq_true rfl) dX7_plain_23 ?_
        refine g_cast (ci := 2) G ((hds t hlt2).1) (by first | decide | omega) rfl cl_X7_95 dX7_plain_26 ?_
        first | refine g_getR G fl_X7_202 (by assumption) (by first | decide | omega) rfl (by assumption) dX7_plain_29 ?_ | refine g_getZ G fl_X7_202 (by assumption) (by first | decide | omega) rfl (by assumption) dX7_plain_29 ?_ | refine g_getQ G fl_X7_202 (by assumption) (by first | decide | omega) rfl (by first | assumption | rfl) dX7_plain_29 ?_
        refine g_alen G (t1) (by first | decide | omega) (by first | assumption | rfl) dX7_plain_32 ?_
        refine g_iadd G dX7_plain_33 (nI_add (gAll M t) _) ?_
        refine g_istore_n G dX7_plain_34 (gSt_1 (by first | rfl | exact g_c1_rf)) ?_
        refine g_iload_n G dX7_plain_35 rfl ?_
        first | refine g_aload_n G dX7_plain_36 rfl ?_ | refine g_aload_nN G dX7_plain_36 rfl ?_ | refine g_aload_nQ G dX7_plain_36 rfl ?_
        first | refine g_getR G fl_X7_19 (by assumption) (by first | decide | omega) rfl (by assumption) dX7_plain_37 ?_ | refine g_getZ G fl_X7_19 (by assumption) (by first | decide | omega) rfl (by assumption) dX7_plain_37 ?_ | refine g_getQ G fl_X7_19 (by assumption) (by first | decide | omega) rfl (by first | assumption | rfl) dX7_plain_37 ?_
        refine g_iload_n G dX7_plain_40 rfl ?_
        refine g_callVp (ci := 0) G (c_Jx4a65c_get_915e3 _ S (ad 5 2) 3 (mN M 11) t (ad 2) l2 hlt2) mt_Jx4a65c_get_915e3 mi_Jx4a65c_get_915e3 ml_X7_300 (l2.1) (by first | decide | omega) rfl (by decide) (by omega) (by omega) rfl (Nat.le_of_ble_eq_true rfl) dX7_plain_41 ?_
        refine g_cast (ci := 2) G ((hds t hlt2).1) (by first | decide | omega) rfl cl_X7_95 dX7_plain_44 ?_
        refine g_callVp (ci := 2) G (c_X1_countVeiled _ S ad M t (hds t hlt2)) mt_X1_countVeiled mi_X1_countVeiled ml_X7_374 (by assumption) (by first | decide | omega) rfl (by decide) (by omega) (by omega) rfl (Nat.le_of_ble_eq_true rfl) dX7_plain_47 ?_
        refine g_iadd G dX7_plain_50 (nI_add (gVei M t) _) ?_
        refine g_istore_n G dX7_plain_51 (gSt_2 (by first | rfl | exact g_c1_rf)) ?_
        refine g_iinc (v := _) G dX7_plain_52 rfl (by first | exact nI_1 _ | rfl) (gSt_3 (by first | rfl | exact g_c1_rf)) ?_
        refine g_goto (tgt := 6) G dX7_plain_55 (by decide) ?_
        exact ih2 (t + 1) (by omega) (by omega)
  exact inner6 ((mN M 11) + 1) 0 (by omega) (by omega)
