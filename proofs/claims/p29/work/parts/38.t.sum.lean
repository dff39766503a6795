/-! MEAN, LUCK -/
def g_hw (v n : Int) (c : Int32 → Int) (aw : Int32) : Int := g_wt aw v n.toNat * c aw
theorem g_hw_b {v n : Int} {c : Int32 → Int} (v0 : 0 ≤ v ∧ v ≤ 10) (n0 : 0 ≤ n) (n6 : n ≤ 6) (hc : ∀ a, 0 ≤ c a ∧ c a ≤ 63) (aw : Int32) : 0 ≤ g_hw v n c aw ∧ g_hw v n c aw ≤ 63000000 := by
  have z := g_wt_6 (aw := aw) v0 n0 n6
  have y := hc aw
  exact ⟨Int.mul_nonneg z.1 y.1, Int.le_trans (Int.mul_le_mul z.2 y.2 y.1 (by omega)) (by decide)⟩
theorem g_sq_0 {v n : Int} {c : Int32 → Int} (v0 : 0 ≤ v ∧ v ≤ 10) (n0 : 0 ≤ n) (n6 : n ≤ 6) (hc : ∀ a, 0 ≤ c a ∧ c a ≤ 63) (m : Nat) : 0 ≤ g_sq (g_hw v n c) m := (g_sq_b (h := g_hw v n c) (B := 63000000) (fun a => g_hw_b v0 n0 n6 hc a) m).1
theorem g_sq_l1 {v n k : Int} {c : Int32 → Int} {yT z w : Int64} {aw : Int32} (e : yT.toInt = g_sq (g_hw v n c) k.toNat) (k0 : 0 ≤ k) (k6 : k ≤ 64) (v0 : 0 ≤ v ∧ v ≤ 10) (n0 : 0 ≤ n) (n6 : n ≤ 6) (hc : ∀ a, 0 ≤ c a ∧ c a ≤ 63) (hy : aw.toInt = k) (hw : w.toInt = g_wt aw v n.toNat) (hb : c aw = 1) (hz : z = yT + w) : z.toInt = g_sq (g_hw v n c) (k + 1).toNat := by
  have w6 := g_wt_6 (aw := aw) v0 n0 n6
  have sb := g_sq_b (h := g_hw v n c) (B := 63000000) (fun a => g_hw_b v0 n0 n6 hc a) k.toNat
  have pe : w.toInt = g_hw v n c aw := by
    unfold g_hw
    rw [hb, Int.mul_one, hw]
  have pb := g_hw_b v0 n0 n6 hc aw
  have ze : z.toInt = yT.toInt + g_hw v n c aw := g_lad hz rfl pe (by rw [e]; omega) (by omega)
  exact g_sq_s e k0 hy rfl ze
theorem g_sq_l0 {v n k : Int} {c : Int32 → Int} {yT : Int64} {aw : Int32} (e : yT.toInt = g_sq (g_hw v n c) k.toNat) (k0 : 0 ≤ k) (hy : aw.toInt = k) (hb : c aw = 0) : yT.toInt = g_sq (g_hw v n c) (k + 1).toNat := by
  refine g_sq_s e k0 hy rfl ?_
  unfold g_hw
  rw [hb, Int.mul_zero, Int.add_zero]
def g_sr (R : Int32 → Int → Prop) (v n : Int) : Nat → Int → Prop
  | 0, T => T = 0
  | m + 1, T => ∃ T0 c, g_sr R v n m T0 ∧ R (Int32.ofInt (m : Int)) c ∧ T = T0 + g_wt (Int32.ofInt (m : Int)) v n.toNat * c
theorem g_sr_b {R : Int32 → Int → Prop} {v n : Int} (v0 : 0 ≤ v ∧ v ≤ 10) (n0 : 0 ≤ n) (n6 : n ≤ 6) (hR : ∀ a c, R a c → 0 ≤ c ∧ c ≤ 63) : ∀ (m : Nat) (T : Int), g_sr R v n m T → 0 ≤ T ∧ T ≤ 63000000 * m
  | 0, T, h => by
    have h : T = 0 := h
    omega
  | m + 1, T, h => by
    obtain ⟨T0, c, h1, h2, h3⟩ := h
    have z := g_sr_b v0 n0 n6 hR m T0 h1
    have y := g_hw_b (c := fun _ => c) v0 n0 n6 (fun _ => hR _ c h2) (Int32.ofInt (m : Int))
    have y : 0 ≤ g_wt (Int32.ofInt (m : Int)) v n.toNat * c ∧ g_wt (Int32.ofInt (m : Int)) v n.toNat * c ≤ 63000000 := y
    rw [h3]
    generalize g_wt (Int32.ofInt (m : Int)) v n.toNat * c = u at *
    omega
theorem g_sr_s {R : Int32 → Int → Prop} {v n k c : Int} {yT z w bl p : Int64} {aw : Int32} (e : g_sr R v n k.toNat yT.toInt) (k0 : 0 ≤ k) (k6 : k ≤ 64) (v0 : 0 ≤ v ∧ v ≤ 10) (n0 : 0 ≤ n) (n6 : n ≤ 6) (hR : ∀ a c, R a c → 0 ≤ c ∧ c ≤ 63) (hy : aw.toInt = k) (hw : w.toInt = g_wt aw v n.toNat) (hb : bl.toInt = c) (hc : R aw c) (hp : p = w * bl) (hz : z = yT + p) : g_sr R v n (k + 1).toNat z.toInt := by
  have w6 := g_wt_6 (aw := aw) v0 n0 n6
  have c6 := hR aw c hc
  have sb := g_sr_b v0 n0 n6 hR k.toNat _ e
  have pe : p.toInt = g_wt aw v n.toNat * c := g_lm hp hw hb (by omega) (by omega)
  have pb := g_hw_b (c := fun _ => c) v0 n0 n6 (fun _ => c6) aw
  have pb : 0 ≤ g_wt aw v n.toNat * c ∧ g_wt aw v n.toNat * c ≤ 63000000 := pb
  have ze : z.toInt = yT.toInt + g_wt aw v n.toNat * c := g_lad hz rfl pe (by omega) (by omega)
  rw [show (k + 1).toNat = k.toNat + 1 by omega]
  refine ⟨yT.toInt, c, e, ?_, ?_⟩
  · rw [show ((k.toNat : Nat) : Int) = k by omega, g_ofi hy]
    exact hc
  · rw [show ((k.toNat : Nat) : Int) = k by omega, g_ofi hy]
    exact ze
theorem g_sr_q {R : Int32 → Int → Prop} {v n : Int} {c : Int32 → Int} (h : ∀ a x, R a x → x = c a) : ∀ (m : Nat) (T : Int), g_sr R v n m T → T = g_sq (g_hw v n c) m
  | 0, T, e => e
  | m + 1, T, e => by
    obtain ⟨T0, x, h1, h2, h3⟩ := e
    show T = g_sq (g_hw v n c) m + g_hw v n c (Int32.ofInt (m : Int))
    rw [h3, g_sr_q h m T0 h1, h _ x h2]
    rfl
def g_aR (M : Nat → Int → Bool) (σ : h_S) (w : Int) (aw : Int32) (c : Int) : Prop := ∃ o τ : h_S, h_I o ∧ h_F M o σ ∧ g_DM (o 98 1) (o 99 18) (o 99) (o 100) (τ 105) ∧ g_pmI (fun p l g => g_yM (τ 105) (fun i => o 99 (19 + 2 * i)) (fun i => o 99 (19 + 2 * i + 1)) (o 99 25) p l (o 99 (26 + g))) aw (fun i => o 99 (35 + i)) (fun g => g_orn (o 99 (29 + g))) (o 99 43) (τ 99) (τ 98 22) (τ 98 23) ∧ ((w = -4 ∧ c = g_bn8 (Int32.ofInt (τ 98 23)) 8) ∨ (¬ w = -4 ∧ c = g_hb (Int32.ofInt (τ 98 22)) w))
theorem g_aR_b {M : Nat → Int → Bool} {σ : h_S} {w : Int} : ∀ a c, g_aR M σ w a c → 0 ≤ c ∧ c ≤ 63 := fun a c h => by
  obtain ⟨o, τ, -, -, -, -, h⟩ := h
  rcases h with h | h
  · have z := g_b8_r (Int32.ofInt (τ 98 23)) 8
    rw [h.2]
    omega
  · have z := g_hb_r (Int32.ofInt (τ 98 22)) w
    rw [h.2]
    omega
theorem c_R.run2 {s : h_S} {F G f S : Int → Int} {aw : Int32} {c t : Int} (h : c_R true s) (hI : h_I s) (ht : g_ti s) (hF : g_DX (s 10 8) (s 12) (s 11) (s 13 2) (s 14) (s 15) F) (hG : g_DM (s 98 1) (s 99 18) (s 99) (s 100) G) (hf : g_FX (s 10 8) (s 17) (s 18) (s 16 2) f) (hM : g_pmI (fun p l g => g_yM G (fun i => s 99 (19 + 2 * i)) (fun i => s 99 (19 + 2 * i + 1)) (s 99 25) p l (s 99 (26 + g))) aw (fun i => s 99 (35 + i)) (fun g => g_orn (s 99 (29 + g))) (s 99 43) S c t) : (g_pf (fun p l g => g_yX (s 10 8) F f p l (s 19 g)) aw (s 22) (s 20, 0, 0) (s 10 10).toNat).2.1 = Int32.ofInt c ∧ (g_pf (fun p l g => g_yX (s 10 8) F f p l (s 19 g)) aw (s 22) (s 20, 0, 0) (s 10 10).toNat).2.2 = Int32.ofInt t ∧ 0 ≤ ((g_pf (fun p l g => g_yX (s 10 8) F f p l (s 19 g)) aw (s 22) (s 20, 0, 0) (s 10 10).toNat).2.2).toInt ∧ ((g_pf (fun p l g => g_yX (s 10 8) F f p l (s 19 g)) aw (s 22) (s 20, 0, 0) (s 10 10).toNat).2.2).toInt ≤ 255 := by
  have z := h.run hI ht hF hG hf (L1 := s 20) (fun g a b => rfl) (g_pf_t (g_pf (fun p l g => g_yX (s 10 8) F f p l (s 19 g)) aw (s 22) (s 20, 0, 0) (s 10 10).toNat)) hM
  rw [Int32.ofInt_toInt] at z
  exact z.2
theorem g_hb_63 (w : Int32) (x : Int) : 0 ≤ g_hb w x ∧ g_hb w x ≤ 63 := by
  have z := g_hb_r w x
  omega
def kf_n_luckX : List Nat := [80898, 82943, 83967, 83970, 86015, 87039]
set_option maxHeartbeats 100000000 in
set_option maxHeartbeats 100000000 in
theorem n_luckX_l (ns : Nat) (σ : h_S) (hI : h_I σ) (x0 : Int32) (a0 : Int) (hx0 : x0.toInt = a0) (x1 : Int32) (a1 : Int) (hx1 : x1.toInt = a1) (x2 : Int32) (a2 : Int) (hx2 : x2.toInt = a2) (pr0 : g_lk' (σ 10 8) (σ 10 9) (σ 20)) (pr1 : ∀ i, 0 ≤ i → i < σ 10 10 → 0 ≤ σ 22 i ∧ σ 22 i / 10 < σ 10 8 ∧ σ 22 i % 10 < σ 10 9) {Q : Option Value → h_S → Prop} (kk : ∀ (r : Int64) (τ : h_S), h_I τ → h_F (k_in kf_n_luckX) τ σ → ((¬ (0 ≤ a0 ∧ a0 ≤ 10 ∧ 0 ≤ a1 ∧ a1 < σ 10 8 ∧ (a2 = 0 ∨ a2 = 1)) ∧ r.toInt = -1) ∨ ((0 ≤ a0 ∧ a0 ≤ 10 ∧ 0 ≤ a1 ∧ a1 < σ 10 8 ∧ (a2 = 0 ∨ a2 = 1)) ∧ ∃ D f, g_DX (σ 10 8) (σ 12) (σ 11) (σ 13 2) (σ 14) (σ 15) D ∧ g_FX (σ 10 8) (σ 17) (σ 18) (σ 16 2) f ∧ ∃ t g : Int64, t.toInt = (if a2 = 0 then (g_sq (g_hw a0 (σ 10 8) (fun aw => g_hb (g_pf (fun p l g => g_yX (σ 10 8) D f p l (σ 19 g)) aw (σ 22) (σ 20, 0, 0) (σ 10 10).toNat).2.1 a1)) (g_2p (σ 10 8)).toNat) else 10 ^ (σ 10 8).toNat) ∧ g.toInt = g_eu 1000 (g_sq (g_hw a0 (σ 10 8) (fun aw => g_hb (g_pf (fun p l g => g_yX (σ 10 8) D f p l (σ 19 g)) aw (σ 22) (σ 20, 0, 0) (σ 10 10).toNat).2.1 a1)) (g_2p (σ 10 8)).toNat) (10 ^ (σ 10 8).toNat) ∧ r = t / g)) → Q (some (.long r)) τ) : ∀ n : Nat, (∀ (s0 : h_S), h_I s0 → h_F (k_in kf_n_luckX) s0 σ → ∀ (y4 : Int64), ∀ (y6 : Int32) (b6 : Int), y6.toInt = b6 → (0 ≤ b6 ∧ b6 ≤ 64) → (0 ≤ a0 ∧ a0 ≤ 10 ∧ 0 ≤ a1 ∧ a1 < σ 10 8 ∧ (a2 = 0 ∨ a2 = 1)) → (g_op (σ 10 8) (s0 80) (s0 81) (σ 19) (σ 10 9) 0 (s0 83)) → (g_DX (σ 10 8) (σ 12) (σ 11) (σ 13 2) (σ 14) (σ 15) (s0 80)) → (g_FX (σ 10 8) (σ 17) (σ 18) (σ 16 2) (s0 81)) → (y4.toInt = g_sq (g_hw a0 (σ 10 8) (fun aw => g_hb (g_pf (fun p l g => g_yX (σ 10 8) (s0 80) (s0 81) p l (σ 19 g)) aw (σ 22) (σ 20, 0, 0) (σ 10 10).toNat).2.1 a1)) b6.toNat) → (b6 ≤ g_2p (σ 10 8)) → (64 + 1 - b6) * 1000000 + 1000000000 ≤ (n : Int) → h_T g_P (g_Y ns) 109 46 [(0, .ref 9), (1, .int x0), (2, .int x1), (3, .int x2), (4, .long y4), (6, .int y6)] [] s0 Q) := by
  intro n
  induction n with
  | zero => exact by intro s0 I0 F0_ y4 y6 b6 hy6 ry6 ex0 ex1 ex2 ex3 ex4 ex5 hm; have gh0 := F0_ 10 8 rfl; have gh1 := tf_10_8 hI; have gh2 := g_2p_b (n := σ 10 8) (by have t := tf_10_8 hI; omega) (by have t := tf_10_8 hI; omega); exfalso; omega
  | succ n ih =>
    intro s0 I0 F0_ y4 y6 b6 hy6 ry6 ex0 ex1 ex2 ex3 ex4 ex5 hm; have gh0 := F0_ 10 8 rfl; have gh1 := tf_10_8 hI; have gh2 := g_2p_b (n := σ 10 8) (by have t := tf_10_8 hI; omega) (by have t := tf_10_8 hI; omega)
    refine h_iload (pc' := 48) rfl rfl rfl ?_
    refine h_iconst (pc' := 49) (x := (Int32.ofInt 1)) rfl rfl rfl ?_
    refine h_aload_n (pc' := 50) rfl rfl rfl ?_
    refine h_getR (pc' := 53) rfl rfl rfl rfl rfl ?_
    refine h_getI (pc' := 56) (v := σ 10 8) rfl rfl rfl rfl rfl (F0_ 10 8 rfl) (fun z1 hz1 => ?_)
    have tz1 := tf_10_8 hI
    refine h_shl1 (pc' := 57) rfl rfl ci_1 hz1 (by omega) (by omega) (fun z2 hz2 vz2 => ?_)
    refine h_cge (tg := 106) (pc' := 60) rfl rfl rfl hy6 rfl (fun c3 => ?_) (fun c3 => ?_)
    · refine h_aload_n (pc' := 107) rfl rfl rfl ?_
      refine h_lload (pc' := 109) rfl rfl rfl ?_
      refine h_iload_n (pc' := 110) rfl rfl rfl ?_
      refine h_call (sp := false) (pc' := 113) (M := [(0, .ref 9), (1, .long y4), (3, .int x2)]) rfl rfl rfl rfl rfl rfl rfl rfl ?_
      refine n_part _ I0 y4 x2 _ hx2 (by rw [ex4]; exact g_sq_0 (by omega) (by omega) (by omega) (fun _ => g_hb_63 _ _) _) (fun r4 s5 Is5 Gs5 ps5_0 => h_Kv ?_)
      have Fs5 := (Gs5.mono (B := kf_n_luckX) rfl).tr F0_
      have es5_0 : s5 98 13 = s0 98 13 := (Gs5 98 13 rfl).trans rfl
      exact h_lret rfl rfl (kk _ _ Is5 Fs5 (by have gs := g_2p_of hz2 hz1; have gq := ps5_0; rw [show s0 10 8 = σ 10 8 from F0_ 10 8 rfl, ex4, show b6 = g_2p (σ 10 8) by omega] at gq; exact Or.inr ⟨by omega, s0 80, s0 81, ex2, ex3, gq⟩))
    · refine h_aload_n (pc' := 61) rfl rfl rfl ?_
      refine h_getR (pc' := 64) rfl rfl rfl rfl rfl ?_
      refine h_aload_n (pc' := 65) rfl rfl rfl ?_
      refine h_getR (pc' := 68) rfl rfl rfl rfl rfl ?_
      refine h_iload (pc' := 70) rfl rfl rfl ?_
      refine h_call (sp := false) (pc' := 73) (M := [(0, .ref 82), (1, .ref 10), (2, .int y6)]) rfl rfl rfl rfl rfl rfl rfl rfl ?_
      refine n_run_10 _ I0 y6 _ hy6 (g_op_t ex1 (F0_ 10 8 rfl).symm rfl rfl (funext (fun j => F0_ 19 j rfl)).symm (F0_ 10 9 rfl).symm rfl) (by rw [F0_ 10 8 rfl, F0_ 10 9 rfl, show s0 20 = σ 20 from (funext (fun j => F0_ 20 j rfl))]; exact pr0) (by rw [F0_ 10 8 rfl, F0_ 10 9 rfl, F0_ 10 10 rfl, show s0 22 = σ 22 from (funext (fun j => F0_ 22 j rfl))]; exact pr1) (fun r6 br6 hr6 s7 Is7 Gs7 ps7_0 => h_Kv ?_)
      have Fs7 := (Gs7.mono (B := kf_n_luckX) rfl).tr F0_
      have es7_0 : s7 98 13 = s0 98 13 := (Gs7 98 13 rfl).trans rfl
      refine h_pop (pc' := 74) rfl rfl rfl ?_
      refine h_aload_n (pc' := 75) rfl rfl rfl ?_
      refine h_getR (pc' := 78) rfl rfl rfl rfl rfl ?_
      refine h_getI (pc' := 81) (v := s7 82 2) rfl rfl rfl rfl rfl rfl (fun z8 hz8 => ?_)
      have tz8 := tf_82_2 Is7
      refine h_iload_n (pc' := 82) rfl rfl rfl ?_
      refine h_calls (pc' := 85) (M := [(0, .int z8), (1, .int x1)]) rfl rfl rfl rfl rfl rfl ?_
      refine h_iload_n (pc' := 1) rfl rfl rfl ?_
      refine h_iload_n (pc' := 2) rfl rfl rfl ?_
      refine h_ishr (pc' := 3) rfl rfl (fun z9 hz9 => ?_)
      refine h_iconst (pc' := 4) (x := (Int32.ofInt 1)) rfl rfl rfl ?_
      refine h_iand (pc' := 5) rfl rfl (fun z10 hz10 uz10 vz10 => ?_)
      clear uz10
      rw [ci_1] at vz10
      have yz10 := vz10 (by omega)
      refine h_zeq (tg := 12) (pc' := 8) rfl rfl rfl rfl (fun c11 => ?_) (fun c11 => ?_)
      · refine h_iconst (pc' := 13) (x := (Int32.ofInt 0)) rfl rfl rfl ?_
        refine h_zret rfl rfl ci_0 (by omega) (h_Kv ?_)
        refine h_zeq (tg := 100) (pc' := 88) rfl rfl rfl ci_0 (fun c12 => ?_) (fun c12 => absurd c12 (by omega))
        refine h_iinc (pc' := 103) (M := fun z13 => [(6, .int z13), (0, .ref 9), (1, .int x0), (2, .int x1), (3, .int x2), (4, .long y4)]) rfl rfl rfl rfl hy6 ci_1 rfl (by omega) (by omega) (fun _ => rfl) (fun z13 hz13 => ?_)
        refine h_goto (pc' := 46) rfl rfl ?_
        exact h_wk [(0, .ref 9), (1, .int x0), (2, .int x1), (3, .int x2), (4, .long y4), (6, .int z13)] ⟨rfl, rfl, rfl, rfl, rfl, rfl, trivial⟩ (ih _ Is7 Fs7 y4 z13 _ hz13 (by omega) (by omega) (g_op_t ex1 rfl (funext (fun j => Gs7 80 j rfl)).symm (funext (fun j => Gs7 81 j rfl)).symm rfl rfl (funext (fun j => Gs7 83 j rfl)).symm) (g_DX_f ex2 (funext (fun j => Gs7 80 j rfl))) (g_FX_t ex3 rfl rfl rfl rfl (funext (fun j => Gs7 81 j rfl))) (by have q0 := ps7_0; rw [show s0 10 8 = σ 10 8 from F0_ 10 8 rfl, show s0 10 9 = σ 10 9 from F0_ 10 9 rfl, show s0 10 10 = σ 10 10 from F0_ 10 10 rfl, show s0 19 = σ 19 from (funext (fun j => F0_ 19 j rfl)), show s0 20 = σ 20 from (funext (fun j => F0_ 20 j rfl)), show s0 22 = σ 22 from (funext (fun j => F0_ 22 j rfl))] at q0; have qe := g_run_c q0 pr0 pr1; have gs := g_2p_of hz2 hz1; have gb := g_2p_b (n := σ 10 8) (by omega) (by omega); have gz := g_hb_oi hz10 hz9 hx1 hz8; have gc : z10.toInt = g_hb (g_pf (fun p l g => g_yX (σ 10 8) (s0 80) (s0 81) p l (σ 19 g)) y6 (σ 22) (σ 20, 0, 0) (σ 10 10).toNat).2.1 a1 := (by rw [← qe.1]; exact gz); rw [show s7 80 = s0 80 from (funext (fun j => Gs7 80 j rfl)), show s7 81 = s0 81 from (funext (fun j => Gs7 81 j rfl))]; exact g_sq_l0 ex4 (by omega) hy6 (show g_hb _ a1 = 0 by omega)) (by have gs := g_2p_of hz2 hz1; omega) (by omega))
      · refine h_iconst (pc' := 9) (x := (Int32.ofInt 1)) rfl rfl rfl ?_
        refine h_goto (pc' := 13) rfl rfl ?_
        refine h_zret rfl rfl ci_1 (by omega) (h_Kv ?_)
        refine h_zeq (tg := 100) (pc' := 88) rfl rfl rfl ci_1 (fun c14 => absurd c14 (by omega)) (fun c14 => ?_)
        refine h_lload (pc' := 90) rfl rfl rfl ?_
        refine h_aload_n (pc' := 91) rfl rfl rfl ?_
        refine h_iload (pc' := 93) rfl rfl rfl ?_
        refine h_iload_n (pc' := 94) rfl rfl rfl ?_
        refine h_call (sp := false) (pc' := 97) (M := [(0, .ref 9), (1, .int y6), (2, .int x0)]) rfl rfl rfl rfl rfl rfl rfl rfl ?_
        refine n_wt _ Is7 y6 _ hy6 x0 _ hx0 (by omega) (fun r15 s16 Is16 Gs16 ps16_0 => h_Kv ?_)
        have Fs16 := (Gs16.mono (B := kf_n_luckX) rfl).tr Fs7
        have es16_0 : s16 98 13 = s0 98 13 := (Gs16 98 13 rfl).trans es7_0
        refine h_laddA (pc' := 98) rfl rfl (fun z17 hz17 => ?_)
        refine h_lstore (pc' := 100) (M := [(4, .long z17), (0, .ref 9), (1, .int x0), (2, .int x1), (3, .int x2), (6, .int y6)]) rfl rfl rfl rfl ?_
        refine h_iinc (pc' := 103) (M := fun z18 => [(6, .int z18), (4, .long z17), (0, .ref 9), (1, .int x0), (2, .int x1), (3, .int x2)]) rfl rfl rfl rfl hy6 ci_1 rfl (by omega) (by omega) (fun _ => rfl) (fun z18 hz18 => ?_)
        refine h_goto (pc' := 46) rfl rfl ?_
        exact h_wk [(0, .ref 9), (1, .int x0), (2, .int x1), (3, .int x2), (4, .long z17), (6, .int z18)] ⟨rfl, rfl, rfl, rfl, rfl, rfl, trivial⟩ (ih _ Is16 Fs16 z17 z18 _ hz18 (by omega) (by omega) (g_op_t ex1 rfl ((funext (fun j => Gs16 80 j rfl)).trans (funext (fun j => Gs7 80 j rfl))).symm ((funext (fun j => Gs16 81 j rfl)).trans (funext (fun j => Gs7 81 j rfl))).symm rfl rfl ((funext (fun j => Gs16 83 j rfl)).trans (funext (fun j => Gs7 83 j rfl))).symm) (g_DX_f ex2 ((funext (fun j => Gs16 80 j rfl)).trans (funext (fun j => Gs7 80 j rfl)))) (g_FX_t ex3 rfl rfl rfl rfl ((funext (fun j => Gs16 81 j rfl)).trans (funext (fun j => Gs7 81 j rfl)))) (by have q0 := ps7_0; rw [show s0 10 8 = σ 10 8 from F0_ 10 8 rfl, show s0 10 9 = σ 10 9 from F0_ 10 9 rfl, show s0 10 10 = σ 10 10 from F0_ 10 10 rfl, show s0 19 = σ 19 from (funext (fun j => F0_ 19 j rfl)), show s0 20 = σ 20 from (funext (fun j => F0_ 20 j rfl)), show s0 22 = σ 22 from (funext (fun j => F0_ 22 j rfl))] at q0; have qe := g_run_c q0 pr0 pr1; have gs := g_2p_of hz2 hz1; have gb := g_2p_b (n := σ 10 8) (by omega) (by omega); have gz := g_hb_oi hz10 hz9 hx1 hz8; have gc : z10.toInt = g_hb (g_pf (fun p l g => g_yX (σ 10 8) (s0 80) (s0 81) p l (σ 19 g)) y6 (σ 22) (σ 20, 0, 0) (σ 10 10).toNat).2.1 a1 := (by rw [← qe.1]; exact gz); rw [show s16 80 = s0 80 from ((funext (fun j => Gs16 80 j rfl)).trans (funext (fun j => Gs7 80 j rfl))), show s16 81 = s0 81 from ((funext (fun j => Gs16 81 j rfl)).trans (funext (fun j => Gs7 81 j rfl)))]; exact g_sq_l1 ex4 (by omega) (by omega) (by omega) (by omega) (by omega) (fun _ => g_hb_63 _ _) hy6 (by have qw := ps16_0; rw [show s7 10 8 = σ 10 8 from (Gs7 10 8 rfl).trans (F0_ 10 8 rfl)] at qw; exact qw) (show g_hb _ a1 = 1 by omega) hz17) (by have gs := g_2p_of hz2 hz1; omega) (by omega))
set_option maxHeartbeats 100000000 in
set_option maxHeartbeats 100000000 in
theorem n_luckX {ns : Nat} (σ : h_S) (hI : h_I σ) (x0 : Int32) (a0 : Int) (hx0 : x0.toInt = a0) (x1 : Int32) (a1 : Int) (hx1 : x1.toInt = a1) (x2 : Int32) (a2 : Int) (hx2 : x2.toInt = a2) (pr0 : g_lk' (σ 10 8) (σ 10 9) (σ 20)) (pr1 : ∀ i, 0 ≤ i → i < σ 10 10 → 0 ≤ σ 22 i ∧ σ 22 i / 10 < σ 10 8 ∧ σ 22 i % 10 < σ 10 9) {Q : Option Value → h_S → Prop} (kk : ∀ (r : Int64) (τ : h_S), h_I τ → h_F (k_in kf_n_luckX) τ σ → ((¬ (0 ≤ a0 ∧ a0 ≤ 10 ∧ 0 ≤ a1 ∧ a1 < σ 10 8 ∧ (a2 = 0 ∨ a2 = 1)) ∧ r.toInt = -1) ∨ ((0 ≤ a0 ∧ a0 ≤ 10 ∧ 0 ≤ a1 ∧ a1 < σ 10 8 ∧ (a2 = 0 ∨ a2 = 1)) ∧ ∃ D f, g_DX (σ 10 8) (σ 12) (σ 11) (σ 13 2) (σ 14) (σ 15) D ∧ g_FX (σ 10 8) (σ 17) (σ 18) (σ 16 2) f ∧ ∃ t g : Int64, t.toInt = (if a2 = 0 then (g_sq (g_hw a0 (σ 10 8) (fun aw => g_hb (g_pf (fun p l g => g_yX (σ 10 8) D f p l (σ 19 g)) aw (σ 22) (σ 20, 0, 0) (σ 10 10).toNat).2.1 a1)) (g_2p (σ 10 8)).toNat) else 10 ^ (σ 10 8).toNat) ∧ g.toInt = g_eu 1000 (g_sq (g_hw a0 (σ 10 8) (fun aw => g_hb (g_pf (fun p l g => g_yX (σ 10 8) D f p l (σ 19 g)) aw (σ 22) (σ 20, 0, 0) (σ 10 10).toNat).2.1 a1)) (g_2p (σ 10 8)).toNat) (10 ^ (σ 10 8).toNat) ∧ r = t / g)) → Q (some (.long r)) τ) : h_T g_P (g_Y ns) 109 0 [(0, .ref 9), (1, .int x0), (2, .int x1), (3, .int x2)] [] σ Q := by
  have F00 : h_F (k_in kf_n_luckX) σ σ := h_F.rf
  have ge0 := tf_10_8 hI
  refine h_iload_n (pc' := 1) rfl rfl rfl ?_
  refine h_zlt (tg := 28) (pc' := 4) rfl rfl rfl hx0 (fun c1 => ?_) (fun c1 => ?_)
  · refine h_ldc2 (pc' := 31) (x := (Int64.ofInt (-1))) rfl rfl rfl ?_
    exact h_lret rfl rfl (kk _ _ hI F00 (Or.inl ⟨by omega, cl_m1⟩))
  · refine h_iload_n (pc' := 5) rfl rfl rfl ?_
    refine h_bipush (pc' := 7) (x := (Int32.ofInt 10)) rfl rfl cb_10 ?_
    refine h_cgt (tg := 28) (pc' := 10) rfl rfl rfl hx0 ci_10 (fun c2 => ?_) (fun c2 => ?_)
    · refine h_ldc2 (pc' := 31) (x := (Int64.ofInt (-1))) rfl rfl rfl ?_
      exact h_lret rfl rfl (kk _ _ hI F00 (Or.inl ⟨by omega, cl_m1⟩))
    · refine h_aload_n (pc' := 11) rfl rfl rfl ?_
      refine h_getR (pc' := 14) rfl rfl rfl rfl rfl ?_
      refine h_iload_n (pc' := 15) rfl rfl rfl ?_
      refine h_call (sp := false) (pc' := 18) (M := [(0, .ref 10), (1, .int x1)]) rfl rfl rfl rfl rfl rfl rfl rfl ?_
      refine h_iload_n (pc' := 1) rfl rfl rfl ?_
      refine h_zlt (tg := 16) (pc' := 4) rfl rfl rfl hx1 (fun c3 => ?_) (fun c3 => ?_)
      · refine h_iconst (pc' := 17) (x := (Int32.ofInt 0)) rfl rfl rfl ?_
        refine h_zret rfl rfl ci_0 (by omega) (h_Kv ?_)
        refine h_zeq (tg := 28) (pc' := 21) rfl rfl rfl ci_0 (fun c4 => ?_) (fun c4 => absurd c4 (by omega))
        refine h_ldc2 (pc' := 31) (x := (Int64.ofInt (-1))) rfl rfl rfl ?_
        exact h_lret rfl rfl (kk _ _ hI F00 (Or.inl ⟨by omega, cl_m1⟩))
      · refine h_iload_n (pc' := 5) rfl rfl rfl ?_
        refine h_aload_n (pc' := 6) rfl rfl rfl ?_
        refine h_getI (pc' := 9) (v := σ 10 8) rfl rfl rfl rfl rfl rfl (fun z5 hz5 => ?_)
        have tz5 := tf_10_8 hI
        refine h_cge (tg := 16) (pc' := 12) rfl rfl rfl hx1 hz5 (fun c6 => ?_) (fun c6 => ?_)
        · refine h_iconst (pc' := 17) (x := (Int32.ofInt 0)) rfl rfl rfl ?_
          refine h_zret rfl rfl ci_0 (by omega) (h_Kv ?_)
          refine h_zeq (tg := 28) (pc' := 21) rfl rfl rfl ci_0 (fun c7 => ?_) (fun c7 => absurd c7 (by omega))
          refine h_ldc2 (pc' := 31) (x := (Int64.ofInt (-1))) rfl rfl rfl ?_
          exact h_lret rfl rfl (kk _ _ hI F00 (Or.inl ⟨by omega, cl_m1⟩))
        · refine h_iconst (pc' := 13) (x := (Int32.ofInt 1)) rfl rfl rfl ?_
          refine h_goto (pc' := 17) rfl rfl ?_
          refine h_zret rfl rfl ci_1 (by omega) (h_Kv ?_)
          refine h_zeq (tg := 28) (pc' := 21) rfl rfl rfl ci_1 (fun c8 => absurd c8 (by omega)) (fun c8 => ?_)
          refine h_iload_n (pc' := 22) rfl rfl rfl ?_
          refine h_calls (pc' := 25) (M := [(0, .int x2)]) rfl rfl rfl rfl rfl rfl ?_
          refine h_iload_n (pc' := 1) rfl rfl rfl ?_
          refine h_zeq (tg := 9) (pc' := 4) rfl rfl rfl hx2 (fun c9 => ?_) (fun c9 => ?_)
          · refine h_iconst (pc' := 10) (x := (Int32.ofInt 1)) rfl rfl rfl ?_
            refine h_goto (pc' := 14) rfl rfl ?_
            refine h_zret rfl rfl ci_1 (by omega) (h_Kv ?_)
            refine h_zne (tg := 32) (pc' := 28) rfl rfl rfl ci_1 (fun c10 => ?_) (fun c10 => absurd c10 (by omega))
            refine h_aload_n (pc' := 33) rfl rfl rfl ?_
            refine h_aload_n (pc' := 34) rfl rfl rfl ?_
            refine h_getR (pc' := 37) rfl rfl rfl rfl rfl ?_
            refine h_call (sp := false) (pc' := 40) (M := [(0, .ref 9), (1, .ref 10)]) rfl rfl rfl rfl rfl rfl rfl rfl ?_
            refine h_aload_n (pc' := 1) rfl rfl rfl ?_
            refine h_getR (pc' := 4) rfl rfl rfl rfl rfl ?_
            refine h_aload_n (pc' := 5) rfl rfl rfl ?_
            refine h_call (sp := false) (pc' := 8) (M := [(0, .ref 79), (1, .ref 10)]) rfl rfl rfl rfl rfl rfl rfl rfl ?_
            refine n_measure_10 _ hI  (fun s12 Is12 Gs12 ps12_0 ps12_1 ps12_2 => h_Kn ?_)
            have Fs12 := (Gs12.mono (B := kf_n_luckX) rfl).tr F00
            have es12_0 : s12 98 13 = σ 98 13 := (Gs12 98 13 rfl).trans rfl
            refine h_aload_n (pc' := 9) rfl rfl rfl ?_
            refine h_getR (pc' := 12) rfl rfl rfl rfl rfl ?_
            refine h_aload_n (pc' := 13) rfl rfl rfl ?_
            refine h_aload_n (pc' := 14) rfl rfl rfl ?_
            refine h_getR (pc' := 17) rfl rfl rfl rfl rfl ?_
            refine h_call (sp := false) (pc' := 20) (M := [(0, .ref 82), (1, .ref 10), (2, .ref 79)]) rfl rfl rfl rfl rfl rfl rfl rfl ?_
            refine n_open_10 _ Is12  (fun s14 Is14 Gs14 ps14_0 => h_Kn ?_)
            have Fs14 := (Gs14.mono (B := kf_n_luckX) rfl).tr Fs12
            have es14_0 : s14 98 13 = σ 98 13 := (Gs14 98 13 rfl).trans es12_0
            refine h_vret rfl rfl (h_Kn ?_)
            refine h_lconst (pc' := 41) (x := (Int64.ofInt 0)) rfl rfl rfl ?_
            refine h_lstore (pc' := 43) (M := [(4, .long (Int64.ofInt 0)), (0, .ref 9), (1, .int x0), (2, .int x1), (3, .int x2)]) rfl rfl rfl rfl ?_
            refine h_iconst (pc' := 44) (x := (Int32.ofInt 0)) rfl rfl rfl ?_
            refine h_istore (pc' := 46) (M := [(6, .int (Int32.ofInt 0)), (4, .long (Int64.ofInt 0)), (0, .ref 9), (1, .int x0), (2, .int x1), (3, .int x2)]) rfl rfl rfl rfl ?_
            have gl4 := cl_0
            exact h_wk [(0, .ref 9), (1, .int x0), (2, .int x1), (3, .int x2), (4, .long (Int64.ofInt 0)), (6, .int (Int32.ofInt 0))] ⟨rfl, rfl, rfl, rfl, rfl, rfl, trivial⟩ ((n_luckX_l ns σ hI x0 a0 hx0 x1 a1 hx1 x2 a2 hx2 pr0 pr1 kk 1000000000000) _ Is14 Fs14 (Int64.ofInt 0) (Int32.ofInt 0) _ ci_0 (by omega) (by omega) (g_op_t ps14_0 (ps12_1.trans rfl) (funext (fun j => Gs14 80 j rfl)).symm (funext (fun j => Gs14 81 j rfl)).symm (funext (fun j => Gs12 19 j rfl)) (Gs12 10 9 rfl) rfl.symm) (g_DX_f (g_DX_t ps12_0 rfl rfl rfl rfl rfl rfl) (funext (fun j => Gs14 80 j rfl))) (g_FX_t ps12_2 rfl rfl rfl rfl (funext (fun j => Gs14 81 j rfl))) cl_0 (by have gb := g_2p_b (n := σ 10 8) (by omega) (by omega); omega) (by omega))
          · refine h_iload_n (pc' := 5) rfl rfl rfl ?_
            refine h_iconst (pc' := 6) (x := (Int32.ofInt 1)) rfl rfl rfl ?_
            refine h_cne (tg := 13) (pc' := 9) rfl rfl rfl hx2 ci_1 (fun c15 => ?_) (fun c15 => ?_)
            · refine h_iconst (pc' := 14) (x := (Int32.ofInt 0)) rfl rfl rfl ?_
              refine h_zret rfl rfl ci_0 (by omega) (h_Kv ?_)
              refine h_zne (tg := 32) (pc' := 28) rfl rfl rfl ci_0 (fun c16 => absurd c16 (by omega)) (fun c16 => ?_)
              refine h_ldc2 (pc' := 31) (x := (Int64.ofInt (-1))) rfl rfl rfl ?_
              exact h_lret rfl rfl (kk _ _ hI F00 (Or.inl ⟨by omega, cl_m1⟩))
            · refine h_iconst (pc' := 10) (x := (Int32.ofInt 1)) rfl rfl rfl ?_
              refine h_goto (pc' := 14) rfl rfl ?_
              refine h_zret rfl rfl ci_1 (by omega) (h_Kv ?_)
              refine h_zne (tg := 32) (pc' := 28) rfl rfl rfl ci_1 (fun c17 => ?_) (fun c17 => absurd c17 (by omega))
              refine h_aload_n (pc' := 33) rfl rfl rfl ?_
              refine h_aload_n (pc' := 34) rfl rfl rfl ?_
              refine h_getR (pc' := 37) rfl rfl rfl rfl rfl ?_
              refine h_call (sp := false) (pc' := 40) (M := [(0, .ref 9), (1, .ref 10)]) rfl rfl rfl rfl rfl rfl rfl rfl ?_
              refine h_aload_n (pc' := 1) rfl rfl rfl ?_
              refine h_getR (pc' := 4) rfl rfl rfl rfl rfl ?_
              refine h_aload_n (pc' := 5) rfl rfl rfl ?_
              refine h_call (sp := false) (pc' := 8) (M := [(0, .ref 79), (1, .ref 10)]) rfl rfl rfl rfl rfl rfl rfl rfl ?_
              refine n_measure_10 _ hI  (fun s19 Is19 Gs19 ps19_0 ps19_1 ps19_2 => h_Kn ?_)
              have Fs19 := (Gs19.mono (B := kf_n_luckX) rfl).tr F00
              have es19_0 : s19 98 13 = σ 98 13 := (Gs19 98 13 rfl).trans rfl
              refine h_aload_n (pc' := 9) rfl rfl rfl ?_
              refine h_getR (pc' := 12) rfl rfl rfl rfl rfl ?_
              refine h_aload_n (pc' := 13) rfl rfl rfl ?_
              refine h_aload_n (pc' := 14) rfl rfl rfl ?_
              refine h_getR (pc' := 17) rfl rfl rfl rfl rfl ?_
              refine h_call (sp := false) (pc' := 20) (M := [(0, .ref 82), (1, .ref 10), (2, .ref 79)]) rfl rfl rfl rfl rfl rfl rfl rfl ?_
              refine n_open_10 _ Is19  (fun s21 Is21 Gs21 ps21_0 => h_Kn ?_)
              have Fs21 := (Gs21.mono (B := kf_n_luckX) rfl).tr Fs19
              have es21_0 : s21 98 13 = σ 98 13 := (Gs21 98 13 rfl).trans es19_0
              refine h_vret rfl rfl (h_Kn ?_)
              refine h_lconst (pc' := 41) (x := (Int64.ofInt 0)) rfl rfl rfl ?_
              refine h_lstore (pc' := 43) (M := [(4, .long (Int64.ofInt 0)), (0, .ref 9), (1, .int x0), (2, .int x1), (3, .int x2)]) rfl rfl rfl rfl ?_
              refine h_iconst (pc' := 44) (x := (Int32.ofInt 0)) rfl rfl rfl ?_
              refine h_istore (pc' := 46) (M := [(6, .int (Int32.ofInt 0)), (4, .long (Int64.ofInt 0)), (0, .ref 9), (1, .int x0), (2, .int x1), (3, .int x2)]) rfl rfl rfl rfl ?_
              have gl4 := cl_0
              exact h_wk [(0, .ref 9), (1, .int x0), (2, .int x1), (3, .int x2), (4, .long (Int64.ofInt 0)), (6, .int (Int32.ofInt 0))] ⟨rfl, rfl, rfl, rfl, rfl, rfl, trivial⟩ ((n_luckX_l ns σ hI x0 a0 hx0 x1 a1 hx1 x2 a2 hx2 pr0 pr1 kk 1000000000000) _ Is21 Fs21 (Int64.ofInt 0) (Int32.ofInt 0) _ ci_0 (by omega) (by omega) (g_op_t ps21_0 (ps19_1.trans rfl) (funext (fun j => Gs21 80 j rfl)).symm (funext (fun j => Gs21 81 j rfl)).symm (funext (fun j => Gs19 19 j rfl)) (Gs19 10 9 rfl) rfl.symm) (g_DX_f (g_DX_t ps19_0 rfl rfl rfl rfl rfl rfl) (funext (fun j => Gs21 80 j rfl))) (g_FX_t ps19_2 rfl rfl rfl rfl (funext (fun j => Gs21 81 j rfl))) cl_0 (by have gb := g_2p_b (n := σ 10 8) (by omega) (by omega); omega) (by omega))
def kf_n_away : List Nat := [100374, 100375, 101891, 108543]
set_option maxHeartbeats 100000000 in
set_option maxHeartbeats 100000000 in
theorem n_away_l (ns : Nat) (σ : h_S) (hI : h_I σ) (x0 : Int32) (a0 : Int) (hx0 : x0.toInt = a0) (ra0 : 0 ≤ a0 ∧ a0 ≤ 10) (x1 : Int32) (a1 : Int) (hx1 : x1.toInt = a1) (x2 : Int32) (a2 : Int) (hx2 : x2.toInt = a2) (pr0 : ∀ i, 0 ≤ i → i < σ 99 43 → 0 ≤ σ 99 (35 + i) ∧ σ 99 (35 + i) / 10 < 6 ∧ σ 99 (35 + i) % 10 < 3) {Q : Option Value → h_S → Prop} (kk : ∀ (r : Int64) (τ : h_S), h_I τ → h_F (k_in kf_n_away) τ σ → (∃ T : Int, g_sr (g_aR (k_in kf_n_away) σ a1) a0 (σ 98 1) (g_2p (σ 98 1)).toNat T ∧ ∃ t g : Int64, t.toInt = (if a2 = 0 then T else (10 ^ (σ 98 1).toNat)) ∧ g.toInt = g_eu 1000 T (10 ^ (σ 98 1).toNat) ∧ r = t / g) → Q (some (.long r)) τ) : ∀ n : Nat, (∀ (s0 : h_S), h_I s0 → h_F (k_in kf_n_away) s0 σ → ∀ (y4 : Int64), ∀ (y6 : Int64), ∀ (y8 : Int32) (b8 : Int), y8.toInt = b8 → (0 ≤ b8 ∧ b8 ≤ 6) → (y4.toInt = 0) → (y6.toInt = 10 ^ b8.toNat) → (b8 ≤ σ 98 1) → (1 ≤ y6.toInt ∧ y6.toInt ≤ 1000000) → (6 + 1 - b8) * 1000000 + 2000000000 ≤ (n : Int) → h_T g_P (g_Y ns) 206 9 [(0, .ref 98), (1, .int x0), (2, .int x1), (3, .int x2), (4, .long y4), (6, .long y6), (8, .int y8)] [] s0 Q) ∧ (∀ (s0 : h_S), h_I s0 → h_F (k_in kf_n_away) s0 σ → ∀ (y4 : Int64), ∀ (y6 : Int64), ∀ (y8 : Int32) (b8 : Int), y8.toInt = b8 → (0 ≤ b8 ∧ b8 ≤ 64) → (y6.toInt = (10 ^ (σ 98 1).toNat)) → (g_sr (g_aR (k_in kf_n_away) σ a1) a0 (σ 98 1) b8.toNat y4.toInt) → (b8 ≤ g_2p (σ 98 1)) → (64 + 1 - b8) * 1000000 + 1000000000 ≤ (n : Int) → h_T g_P (g_Y ns) 206 35 [(0, .ref 98), (1, .int x0), (2, .int x1), (3, .int x2), (4, .long y4), (6, .long y6), (8, .int y8)] [] s0 Q) ∧ (∀ (s0 : h_S), h_I s0 → h_F (k_in kf_n_away) s0 σ → ∀ (y4 : Int64), ∀ (y6 : Int64), ∀ (y8 : Int32) (b8 : Int), y8.toInt = b8 → (0 ≤ b8 ∧ b8 ≤ 63) → ∀ (y9 : Int64), ∀ (y11 : Int32) (b11 : Int), y11.toInt = b11 → (0 ≤ b11 ∧ b11 ≤ 6) → (y6.toInt = (10 ^ (σ 98 1).toNat)) → (g_sr (g_aR (k_in kf_n_away) σ a1) a0 (σ 98 1) b8.toNat y4.toInt) → (b8 < g_2p (σ 98 1)) → (y9.toInt = g_wt y8 a0 b11.toNat) → (b11 ≤ σ 98 1) → ((64 + 1 - b8) - 1) * 1000000 + 1000000000 + (6 + 1 - b11) * 1000 + 100000 ≤ (n : Int) → h_T g_P (g_Y ns) 206 52 [(0, .ref 98), (1, .int x0), (2, .int x1), (3, .int x2), (4, .long y4), (6, .long y6), (8, .int y8), (9, .long y9), (11, .int y11)] [] s0 Q) := by
  intro n
  induction n with
  | zero => exact ⟨by intro s0 I0 F0_ y4 y6 y8 b8 hy8 ry8 ex0 ex1 ex2 ex3 hm; have gh0 := F0_ 98 1 rfl; have gh1 := tf_98_1 hI; have gh2 := g_2p_b (n := σ 98 1) (by have t := tf_98_1 hI; omega) (by have t := tf_98_1 hI; omega); exfalso; omega, by intro s0 I0 F0_ y4 y6 y8 b8 hy8 ry8 ex0 ex1 ex2 hm; have gh0 := F0_ 98 1 rfl; have gh1 := tf_98_1 hI; have gh2 := g_2p_b (n := σ 98 1) (by have t := tf_98_1 hI; omega) (by have t := tf_98_1 hI; omega); exfalso; omega, by intro s0 I0 F0_ y4 y6 y8 b8 hy8 ry8 y9 y11 b11 hy11 ry11 ex0 ex1 ex2 ex3 ex4 hm; have gh0 := F0_ 98 1 rfl; have gh1 := tf_98_1 hI; have gh2 := g_2p_b (n := σ 98 1) (by have t := tf_98_1 hI; omega) (by have t := tf_98_1 hI; omega); exfalso; omega⟩
  | succ n ih =>
    refine ⟨?_, ?_, ?_⟩
    · intro s0 I0 F0_ y4 y6 y8 b8 hy8 ry8 ex0 ex1 ex2 ex3 hm; have gh0 := F0_ 98 1 rfl; have gh1 := tf_98_1 hI; have gh2 := g_2p_b (n := σ 98 1) (by have t := tf_98_1 hI; omega) (by have t := tf_98_1 hI; omega)
      refine h_iload (pc' := 11) rfl rfl rfl ?_
      refine h_aload_n (pc' := 12) rfl rfl rfl ?_
      refine h_getI (pc' := 15) (v := σ 98 1) rfl rfl rfl rfl rfl (F0_ 98 1 rfl) (fun z1 hz1 => ?_)
      have tz1 := tf_98_1 hI
      refine h_cge (tg := 32) (pc' := 18) rfl rfl rfl hy8 hz1 (fun c2 => ?_) (fun c2 => ?_)
      · refine h_iconst (pc' := 33) (x := (Int32.ofInt 0)) rfl rfl rfl ?_
        refine h_istore (pc' := 35) (M := [(8, .int (Int32.ofInt 0)), (0, .ref 98), (1, .int x0), (2, .int x1), (3, .int x2), (4, .long y4), (6, .long y6)]) rfl rfl rfl rfl ?_
        exact h_wk [(0, .ref 98), (1, .int x0), (2, .int x1), (3, .int x2), (4, .long y4), (6, .long y6), (8, .int (Int32.ofInt 0))] ⟨rfl, rfl, rfl, rfl, rfl, rfl, rfl, trivial⟩ (ih.2.1 _ I0 F0_ y4 y6 (Int32.ofInt 0) _ ci_0 (by omega) (by rw [ex1, show b8 = σ 98 1 by omega]) ex0 (by have gb := g_2p_b (n := σ 98 1) (by omega) (by omega); omega) (by omega))
      · refine h_lload (pc' := 20) rfl rfl rfl ?_
        refine h_ldc2 (pc' := 23) (x := (Int64.ofInt 10)) rfl rfl rfl ?_
        refine h_lmul (pc' := 24) rfl rfl rfl cl_10 rfl (by omega) (by omega) (fun z3 hz3 => ?_)
        refine h_lstore (pc' := 26) (M := [(6, .long z3), (0, .ref 98), (1, .int x0), (2, .int x1), (3, .int x2), (4, .long y4), (8, .int y8)]) rfl rfl rfl rfl ?_
        refine h_iinc (pc' := 29) (M := fun z4 => [(8, .int z4), (6, .long z3), (0, .ref 98), (1, .int x0), (2, .int x1), (3, .int x2), (4, .long y4)]) rfl rfl rfl rfl hy8 ci_1 rfl (by omega) (by omega) (fun _ => rfl) (fun z4 hz4 => ?_)
        refine h_goto (pc' := 9) rfl rfl ?_
        exact h_wk [(0, .ref 98), (1, .int x0), (2, .int x1), (3, .int x2), (4, .long y4), (6, .long z3), (8, .int z4)] ⟨rfl, rfl, rfl, rfl, rfl, rfl, rfl, trivial⟩ (ih.1 _ I0 F0_ y4 z3 z4 _ hz4 (by omega) ex0 (by have gp := g_p10s (k := b8) (by omega); omega) (by omega) (by have gp := g_p10 (k := b8 + 1) (by omega) (by omega); have gs := g_p10s (k := b8) (by omega); omega) (by omega))
    · intro s0 I0 F0_ y4 y6 y8 b8 hy8 ry8 ex0 ex1 ex2 hm; have gh0 := F0_ 98 1 rfl; have gh1 := tf_98_1 hI; have gh2 := g_2p_b (n := σ 98 1) (by have t := tf_98_1 hI; omega) (by have t := tf_98_1 hI; omega)
      refine h_iload (pc' := 37) rfl rfl rfl ?_
      refine h_iconst (pc' := 38) (x := (Int32.ofInt 1)) rfl rfl rfl ?_
      refine h_aload_n (pc' := 39) rfl rfl rfl ?_
      refine h_getI (pc' := 42) (v := σ 98 1) rfl rfl rfl rfl rfl (F0_ 98 1 rfl) (fun z1 hz1 => ?_)
      have tz1 := tf_98_1 hI
      refine h_shl1 (pc' := 43) rfl rfl ci_1 hz1 (by omega) (by omega) (fun z2 hz2 vz2 => ?_)
      refine h_cge (tg := 139) (pc' := 46) rfl rfl rfl hy8 rfl (fun c3 => ?_) (fun c3 => ?_)
      · refine h_lload (pc' := 141) rfl rfl rfl ?_
        refine h_lload (pc' := 143) rfl rfl rfl ?_
        refine h_iload_n (pc' := 144) rfl rfl rfl ?_
        refine h_calls (pc' := 147) (M := [(0, .long y4), (2, .long y6), (4, .int x2)]) rfl rfl rfl rfl rfl rfl ?_
        refine n_low _ I0 y4 y6 x2 _ hx2 (by have gp := g_p10 (k := σ 98 1) (by omega) (by omega); omega) (g_sr_b (by omega) (by omega) (by omega) g_aR_b _ _ ex1).1 (by have gp := g_p10 (k := σ 98 1) (by omega) (by omega); omega) (fun r4 s5 Is5 Gs5 ps5_0 => h_Kv ?_)
        have Fs5 := (Gs5.mono (B := kf_n_away) rfl).tr F0_
        have es5_0 : s5 98 13 = s0 98 13 := (Gs5 98 13 rfl).trans rfl
        exact h_lret rfl rfl (kk _ _ Is5 Fs5 (by have gs := g_2p_of hz2 hz1; have gq := ps5_0; rw [ex0] at gq; rw [show b8 = g_2p (σ 98 1) by omega] at ex1; exact ⟨_, ex1, gq⟩))
      · refine h_lconst (pc' := 47) (x := (Int64.ofInt 1)) rfl rfl rfl ?_
        refine h_lstore (pc' := 49) (M := [(9, .long (Int64.ofInt 1)), (0, .ref 98), (1, .int x0), (2, .int x1), (3, .int x2), (4, .long y4), (6, .long y6), (8, .int y8)]) rfl rfl rfl rfl ?_
        refine h_iconst (pc' := 50) (x := (Int32.ofInt 0)) rfl rfl rfl ?_
        refine h_istore (pc' := 52) (M := [(11, .int (Int32.ofInt 0)), (9, .long (Int64.ofInt 1)), (0, .ref 98), (1, .int x0), (2, .int x1), (3, .int x2), (4, .long y4), (6, .long y6), (8, .int y8)]) rfl rfl rfl rfl ?_
        have gl9 := cl_1
        exact h_wk [(0, .ref 98), (1, .int x0), (2, .int x1), (3, .int x2), (4, .long y4), (6, .long y6), (8, .int y8), (9, .long (Int64.ofInt 1)), (11, .int (Int32.ofInt 0))] ⟨rfl, rfl, rfl, rfl, rfl, rfl, rfl, rfl, rfl, trivial⟩ (ih.2.2 _ I0 F0_ y4 y6 y8 _ hy8 (by omega) (Int64.ofInt 1) (Int32.ofInt 0) _ ci_0 (by omega) ex0 ex1 (by have gs := g_2p_of hz2 hz1; omega) cl_1 (by omega) (by omega))
    · intro s0 I0 F0_ y4 y6 y8 b8 hy8 ry8 y9 y11 b11 hy11 ry11 ex0 ex1 ex2 ex3 ex4 hm; have gh0 := F0_ 98 1 rfl; have gh1 := tf_98_1 hI; have gh2 := g_2p_b (n := σ 98 1) (by have t := tf_98_1 hI; omega) (by have t := tf_98_1 hI; omega)
      refine h_iload (pc' := 54) rfl rfl rfl ?_
      refine h_aload_n (pc' := 55) rfl rfl rfl ?_
      refine h_getI (pc' := 58) (v := σ 98 1) rfl rfl rfl rfl rfl (F0_ 98 1 rfl) (fun z1 hz1 => ?_)
      have tz1 := tf_98_1 hI
      refine h_cge (tg := 93) (pc' := 61) rfl rfl rfl hy11 hz1 (fun c2 => ?_) (fun c2 => ?_)
      · refine h_aload_n (pc' := 94) rfl rfl rfl ?_
        refine h_iconst (pc' := 95) (x := (Int32.ofInt 0)) rfl rfl rfl ?_
        refine h_iload (pc' := 97) rfl rfl rfl ?_
        refine h_call (sp := false) (pc' := 100) (M := [(0, .ref 98), (1, .int (Int32.ofInt 0)), (2, .int y8)]) rfl rfl rfl rfl rfl rfl rfl rfl ?_
        refine n_plan0 _ I0  y8 _ hy8 (fun i a b => by rw [(F0_.no (q := 99) (l := 0) (u := 131) (j := 43) rfl (by omega) (by omega))] at b; have t4 := ty_99_10 hI 43 (by omega); rw [(F0_.no (q := 99) (l := 0) (u := 131) (j := 35 + i) rfl (by omega) (by omega))]; exact pr0 i a b) (fun s4 Is4 Gs4 ps4_0 ps4_1 => h_Kn ?_)
        have Fs4 := (Gs4.mono (B := kf_n_away) rfl).tr F0_
        have es4_0 : s4 98 13 = s0 98 13 := (Gs4 98 13 rfl).trans rfl
        refine h_lload (pc' := 102) rfl rfl rfl ?_
        refine h_lload (pc' := 104) rfl rfl rfl ?_
        refine h_iload_n (pc' := 105) rfl rfl rfl ?_
        refine h_bipush (pc' := 107) (x := (Int32.ofInt (-4))) rfl rfl cb_m4 ?_
        refine h_cne (tg := 120) (pc' := 110) rfl rfl rfl hx1 ci_m4 (fun c5 => ?_) (fun c5 => ?_)
        · refine h_aload_n (pc' := 121) rfl rfl rfl ?_
          refine h_getI (pc' := 124) (v := s4 98 22) rfl rfl rfl rfl rfl rfl (fun z6 hz6 => ?_)
          have tz6 := tf_98_22 Is4
          refine h_iload_n (pc' := 125) rfl rfl rfl ?_
          refine h_ishr (pc' := 126) rfl rfl (fun z7 hz7 => ?_)
          refine h_iconst (pc' := 127) (x := (Int32.ofInt 1)) rfl rfl rfl ?_
          refine h_iand (pc' := 128) rfl rfl (fun z8 hz8 uz8 vz8 => ?_)
          clear uz8
          rw [ci_1] at vz8
          have yz8 := vz8 (by omega)
          refine h_i2l (pc' := 129) rfl rfl rfl (fun z9 hz9 => ?_)
          refine h_lmulA (pc' := 130) rfl rfl (fun z10 hz10 => ?_)
          refine h_laddA (pc' := 131) rfl rfl (fun z11 hz11 => ?_)
          refine h_lstore (pc' := 133) (M := [(4, .long z11), (0, .ref 98), (1, .int x0), (2, .int x1), (3, .int x2), (6, .long y6), (8, .int y8), (9, .long y9), (11, .int y11)]) rfl rfl rfl rfl ?_
          refine h_iinc (pc' := 136) (M := fun z12 => [(8, .int z12), (4, .long z11), (0, .ref 98), (1, .int x0), (2, .int x1), (3, .int x2), (6, .long y6), (9, .long y9), (11, .int y11)]) rfl rfl rfl rfl hy8 ci_1 rfl (by omega) (by omega) (fun _ => rfl) (fun z12 hz12 => ?_)
          refine h_goto (pc' := 35) rfl rfl ?_
          exact h_wk [(0, .ref 98), (1, .int x0), (2, .int x1), (3, .int x2), (4, .long z11), (6, .long y6), (8, .int z12)] ⟨rfl, rfl, rfl, rfl, rfl, rfl, rfl, trivial⟩ (ih.2.1 _ Is4 Fs4 z11 y6 z12 _ hz12 (by omega) ex0 (by have gb := g_2p_b (n := σ 98 1) (by omega) (by omega); have hw : y9.toInt = g_wt y8 a0 (σ 98 1).toNat := (by rw [show σ 98 1 = b11 by omega]; exact ex3); exact g_sr_s ex1 (by omega) (by omega) (by omega) (by omega) (by omega) g_aR_b hy8 hw hz9 (show g_aR _ _ _ _ _ from ⟨s0, s4, I0, F0_, ps4_0, ps4_1, Or.inr ⟨by omega, g_hb_oi hz8 hz7 hx1 hz6⟩⟩) hz10 hz11) (by omega) (by omega))
        · refine h_aload_n (pc' := 111) rfl rfl rfl ?_
          refine h_getI (pc' := 114) (v := s4 98 23) rfl rfl rfl rfl rfl rfl (fun z13 hz13 => ?_)
          have tz13 := tf_98_23 Is4
          refine h_calls (pc' := 117) (M := [(0, .int z13)]) rfl rfl rfl rfl rfl rfl ?_
          refine n_b8 _ Is4 z13 _ hz13 (fun r14 br14 hr14 tr14 ps15_0 => h_Kv ?_)
          refine h_goto (pc' := 128) rfl rfl ?_
          refine h_i2l (pc' := 129) rfl rfl hr14 (fun z16 hz16 => ?_)
          refine h_lmulA (pc' := 130) rfl rfl (fun z17 hz17 => ?_)
          refine h_laddA (pc' := 131) rfl rfl (fun z18 hz18 => ?_)
          refine h_lstore (pc' := 133) (M := [(4, .long z18), (0, .ref 98), (1, .int x0), (2, .int x1), (3, .int x2), (6, .long y6), (8, .int y8), (9, .long y9), (11, .int y11)]) rfl rfl rfl rfl ?_
          refine h_iinc (pc' := 136) (M := fun z19 => [(8, .int z19), (4, .long z18), (0, .ref 98), (1, .int x0), (2, .int x1), (3, .int x2), (6, .long y6), (9, .long y9), (11, .int y11)]) rfl rfl rfl rfl hy8 ci_1 rfl (by omega) (by omega) (fun _ => rfl) (fun z19 hz19 => ?_)
          refine h_goto (pc' := 35) rfl rfl ?_
          exact h_wk [(0, .ref 98), (1, .int x0), (2, .int x1), (3, .int x2), (4, .long z18), (6, .long y6), (8, .int z19)] ⟨rfl, rfl, rfl, rfl, rfl, rfl, rfl, trivial⟩ (ih.2.1 _ Is4 Fs4 z18 y6 z19 _ hz19 (by omega) ex0 (by have gb := g_2p_b (n := σ 98 1) (by omega) (by omega); have hw : y9.toInt = g_wt y8 a0 (σ 98 1).toNat := (by rw [show σ 98 1 = b11 by omega]; exact ex3); exact g_sr_s ex1 (by omega) (by omega) (by omega) (by omega) (by omega) g_aR_b hy8 hw hz16 (show g_aR _ _ _ _ _ from ⟨s0, s4, I0, F0_, ps4_0, ps4_1, Or.inl ⟨by omega, ps15_0.trans (congrArg (fun w => g_bn8 w 8) (g_ofi hz13).symm)⟩⟩) hz17 hz18) (by omega) (by omega))
      · refine h_lload (pc' := 63) rfl rfl rfl ?_
        refine h_iload (pc' := 65) rfl rfl rfl ?_
        refine h_iload (pc' := 67) rfl rfl rfl ?_
        refine h_ishr (pc' := 68) rfl rfl (fun z20 hz20 => ?_)
        refine h_iconst (pc' := 69) (x := (Int32.ofInt 1)) rfl rfl rfl ?_
        refine h_iand (pc' := 70) rfl rfl (fun z21 hz21 uz21 vz21 => ?_)
        clear uz21
        rw [ci_1] at vz21
        have yz21 := vz21 (by omega)
        refine h_iconst (pc' := 71) (x := (Int32.ofInt 1)) rfl rfl rfl ?_
        refine h_cne (tg := 79) (pc' := 74) rfl rfl rfl rfl ci_1 (fun c22 => ?_) (fun c22 => ?_)
        · refine h_bipush (pc' := 81) (x := (Int32.ofInt 10)) rfl rfl cb_10 ?_
          refine h_iload_n (pc' := 82) rfl rfl rfl ?_
          refine h_isub (pc' := 83) rfl rfl ci_10 hx0 rfl (by omega) (by omega) (fun z23 hz23 => ?_)
          refine h_i2l (pc' := 84) rfl rfl hz23 (fun z24 hz24 => ?_)
          refine h_lmulA (pc' := 85) rfl rfl (fun z25 hz25 => ?_)
          refine h_lstore (pc' := 87) (M := [(9, .long z25), (0, .ref 98), (1, .int x0), (2, .int x1), (3, .int x2), (4, .long y4), (6, .long y6), (8, .int y8), (11, .int y11)]) rfl rfl rfl rfl ?_
          refine h_iinc (pc' := 90) (M := fun z26 => [(11, .int z26), (9, .long z25), (0, .ref 98), (1, .int x0), (2, .int x1), (3, .int x2), (4, .long y4), (6, .long y6), (8, .int y8)]) rfl rfl rfl rfl hy11 ci_1 rfl (by omega) (by omega) (fun _ => rfl) (fun z26 hz26 => ?_)
          refine h_goto (pc' := 52) rfl rfl ?_
          exact h_wk [(0, .ref 98), (1, .int x0), (2, .int x1), (3, .int x2), (4, .long y4), (6, .long y6), (8, .int y8), (9, .long z25), (11, .int z26)] ⟨rfl, rfl, rfl, rfl, rfl, rfl, rfl, rfl, rfl, trivial⟩ (ih.2.2 _ I0 F0_ y4 y6 y8 _ hy8 (by omega) z25 z26 _ hz26 (by omega) ex0 ex1 (by omega) (by have gz := g_hb_of hz21 hz20 hy11; have gw := g_wt_6 (aw := y8) (v := a0) (k := b11) (by omega) (by omega) (by omega); exact g_wt_s ex3 (by omega) (by omega) (g_lm hz25 rfl hz24 (by omega) (by omega))) (by omega) (by omega))
        · refine h_iload_n (pc' := 75) rfl rfl rfl ?_
          refine h_i2l (pc' := 76) rfl rfl hx0 (fun z27 hz27 => ?_)
          refine h_goto (pc' := 84) rfl rfl ?_
          refine h_lmulA (pc' := 85) rfl rfl (fun z28 hz28 => ?_)
          refine h_lstore (pc' := 87) (M := [(9, .long z28), (0, .ref 98), (1, .int x0), (2, .int x1), (3, .int x2), (4, .long y4), (6, .long y6), (8, .int y8), (11, .int y11)]) rfl rfl rfl rfl ?_
          refine h_iinc (pc' := 90) (M := fun z29 => [(11, .int z29), (9, .long z28), (0, .ref 98), (1, .int x0), (2, .int x1), (3, .int x2), (4, .long y4), (6, .long y6), (8, .int y8)]) rfl rfl rfl rfl hy11 ci_1 rfl (by omega) (by omega) (fun _ => rfl) (fun z29 hz29 => ?_)
          refine h_goto (pc' := 52) rfl rfl ?_
          exact h_wk [(0, .ref 98), (1, .int x0), (2, .int x1), (3, .int x2), (4, .long y4), (6, .long y6), (8, .int y8), (9, .long z28), (11, .int z29)] ⟨rfl, rfl, rfl, rfl, rfl, rfl, rfl, rfl, rfl, trivial⟩ (ih.2.2 _ I0 F0_ y4 y6 y8 _ hy8 (by omega) z28 z29 _ hz29 (by omega) ex0 ex1 (by omega) (by have gz := g_hb_of hz21 hz20 hy11; have gw := g_wt_6 (aw := y8) (v := a0) (k := b11) (by omega) (by omega) (by omega); exact g_wt_s ex3 (by omega) (by omega) (g_lm hz28 rfl hz27 (by omega) (by omega))) (by omega) (by omega))
set_option maxHeartbeats 100000000 in
set_option maxHeartbeats 100000000 in
theorem n_away {ns : Nat} (σ : h_S) (hI : h_I σ) (x0 : Int32) (a0 : Int) (hx0 : x0.toInt = a0) (ra0 : 0 ≤ a0 ∧ a0 ≤ 10) (x1 : Int32) (a1 : Int) (hx1 : x1.toInt = a1) (x2 : Int32) (a2 : Int) (hx2 : x2.toInt = a2) (pr0 : ∀ i, 0 ≤ i → i < σ 99 43 → 0 ≤ σ 99 (35 + i) ∧ σ 99 (35 + i) / 10 < 6 ∧ σ 99 (35 + i) % 10 < 3) {Q : Option Value → h_S → Prop} (kk : ∀ (r : Int64) (τ : h_S), h_I τ → h_F (k_in kf_n_away) τ σ → (∃ T : Int, g_sr (g_aR (k_in kf_n_away) σ a1) a0 (σ 98 1) (g_2p (σ 98 1)).toNat T ∧ ∃ t g : Int64, t.toInt = (if a2 = 0 then T else (10 ^ (σ 98 1).toNat)) ∧ g.toInt = g_eu 1000 T (10 ^ (σ 98 1).toNat) ∧ r = t / g) → Q (some (.long r)) τ) : h_T g_P (g_Y ns) 206 0 [(0, .ref 98), (1, .int x0), (2, .int x1), (3, .int x2)] [] σ Q := by
  have F00 : h_F (k_in kf_n_away) σ σ := h_F.rf
  have ge0 := tf_98_1 hI
  refine h_lconst (pc' := 1) (x := (Int64.ofInt 0)) rfl rfl rfl ?_
  refine h_lstore (pc' := 3) (M := [(4, .long (Int64.ofInt 0)), (0, .ref 98), (1, .int x0), (2, .int x1), (3, .int x2)]) rfl rfl rfl rfl ?_
  refine h_lconst (pc' := 4) (x := (Int64.ofInt 1)) rfl rfl rfl ?_
  refine h_lstore (pc' := 6) (M := [(6, .long (Int64.ofInt 1)), (4, .long (Int64.ofInt 0)), (0, .ref 98), (1, .int x0), (2, .int x1), (3, .int x2)]) rfl rfl rfl rfl ?_
  refine h_iconst (pc' := 7) (x := (Int32.ofInt 0)) rfl rfl rfl ?_
  refine h_istore (pc' := 9) (M := [(8, .int (Int32.ofInt 0)), (6, .long (Int64.ofInt 1)), (4, .long (Int64.ofInt 0)), (0, .ref 98), (1, .int x0), (2, .int x1), (3, .int x2)]) rfl rfl rfl rfl ?_
  have gl4 := cl_0
  have gl6 := cl_1
  exact h_wk [(0, .ref 98), (1, .int x0), (2, .int x1), (3, .int x2), (4, .long (Int64.ofInt 0)), (6, .long (Int64.ofInt 1)), (8, .int (Int32.ofInt 0))] ⟨rfl, rfl, rfl, rfl, rfl, rfl, rfl, trivial⟩ ((n_away_l ns σ hI x0 a0 hx0 ra0 x1 a1 hx1 x2 a2 hx2 pr0 kk 1000000000000).1 _ hI F00 (Int64.ofInt 0) (Int64.ofInt 1) (Int32.ofInt 0) _ ci_0 (by omega) cl_0 cl_1 (by omega) (by decide) (by omega))
def kf_n_luckM : List Nat := [100374, 100375, 101891, 108543]
set_option maxHeartbeats 100000000 in
set_option maxHeartbeats 100000000 in
theorem n_luckM {ns : Nat} (σ : h_S) (hI : h_I σ) (x0 : Int32) (a0 : Int) (hx0 : x0.toInt = a0) (x1 : Int32) (a1 : Int) (hx1 : x1.toInt = a1) (x2 : Int32) (a2 : Int) (hx2 : x2.toInt = a2) (pr0 : ∀ i, 0 ≤ i → i < σ 99 43 → 0 ≤ σ 99 (35 + i) ∧ σ 99 (35 + i) / 10 < 6 ∧ σ 99 (35 + i) % 10 < 3) {Q : Option Value → h_S → Prop} (kk : ∀ (r : Int64) (τ : h_S), h_I τ → h_F (k_in kf_n_luckM) τ σ → ((¬ (0 ≤ a0 ∧ a0 ≤ 10 ∧ 0 ≤ a1 ∧ a1 < σ 98 1 ∧ (a2 = 0 ∨ a2 = 1)) ∧ r.toInt = -1) ∨ ((0 ≤ a0 ∧ a0 ≤ 10 ∧ 0 ≤ a1 ∧ a1 < σ 98 1 ∧ (a2 = 0 ∨ a2 = 1)) ∧ ∃ T : Int, g_sr (g_aR (k_in kf_n_away) σ a1) a0 (σ 98 1) (g_2p (σ 98 1)).toNat T ∧ ∃ t g : Int64, t.toInt = (if a2 = 0 then T else (10 ^ (σ 98 1).toNat)) ∧ g.toInt = g_eu 1000 T (10 ^ (σ 98 1).toNat) ∧ r = t / g)) → Q (some (.long r)) τ) : h_T g_P (g_Y ns) 208 0 [(0, .ref 98), (1, .int x0), (2, .int x1), (3, .int x2)] [] σ Q := by
  have F00 : h_F (k_in kf_n_luckM) σ σ := h_F.rf
  have ge0 := tf_98_1 hI
  refine h_iload_n (pc' := 1) rfl rfl rfl ?_
  refine h_i2l (pc' := 2) rfl rfl hx0 (fun z1 hz1 => ?_)
  refine h_lconst (pc' := 3) (x := (Int64.ofInt 0)) rfl rfl rfl ?_
  refine h_ldc2 (pc' := 6) (x := (Int64.ofInt 10)) rfl rfl rfl ?_
  refine h_calls (pc' := 9) (M := [(0, .long z1), (2, .long (Int64.ofInt 0)), (4, .long (Int64.ofInt 10))]) rfl rfl rfl rfl rfl rfl ?_
  refine h_lload_n (pc' := 1) rfl rfl rfl ?_
  refine h_lload_n (pc' := 2) rfl rfl rfl ?_
  refine h_lcmp (pc' := 3) rfl rfl hz1 cl_0 (fun z2 hz2 => ?_)
  refine h_zlt (tg := 17) (pc' := 6) rfl rfl rfl rfl (fun c3 => ?_) (fun c3 => ?_)
  · replace c3 := (h_lcr hz2).1 c3
    clear hz2
    refine h_iconst (pc' := 18) (x := (Int32.ofInt 0)) rfl rfl rfl ?_
    refine h_zret rfl rfl ci_0 (by omega) (h_Kv ?_)
    refine h_zeq (tg := 40) (pc' := 12) rfl rfl rfl ci_0 (fun c4 => ?_) (fun c4 => absurd c4 (by omega))
    refine h_ldc2 (pc' := 43) (x := (Int64.ofInt (-1))) rfl rfl rfl ?_
    exact h_lret rfl rfl (kk _ _ hI F00 (Or.inl ⟨by omega, cl_m1⟩))
  · replace c3 := (h_lcr hz2).2.1 c3
    clear hz2
    refine h_lload_n (pc' := 7) rfl rfl rfl ?_
    refine h_lload (pc' := 9) rfl rfl rfl ?_
    refine h_lcmp (pc' := 10) rfl rfl hz1 cl_10 (fun z5 hz5 => ?_)
    refine h_zgt (tg := 17) (pc' := 13) rfl rfl rfl rfl (fun c6 => ?_) (fun c6 => ?_)
    · replace c6 := (h_lcr hz5).2.2.2.1 c6
      clear hz5
      refine h_iconst (pc' := 18) (x := (Int32.ofInt 0)) rfl rfl rfl ?_
      refine h_zret rfl rfl ci_0 (by omega) (h_Kv ?_)
      refine h_zeq (tg := 40) (pc' := 12) rfl rfl rfl ci_0 (fun c7 => ?_) (fun c7 => absurd c7 (by omega))
      refine h_ldc2 (pc' := 43) (x := (Int64.ofInt (-1))) rfl rfl rfl ?_
      exact h_lret rfl rfl (kk _ _ hI F00 (Or.inl ⟨by omega, cl_m1⟩))
    · replace c6 := (h_lcr hz5).2.2.1 c6
      clear hz5
      refine h_iconst (pc' := 14) (x := (Int32.ofInt 1)) rfl rfl rfl ?_
      refine h_goto (pc' := 18) rfl rfl ?_
      refine h_zret rfl rfl ci_1 (by omega) (h_Kv ?_)
      refine h_zeq (tg := 40) (pc' := 12) rfl rfl rfl ci_1 (fun c8 => absurd c8 (by omega)) (fun c8 => ?_)
      refine h_aload_n (pc' := 13) rfl rfl rfl ?_
      refine h_iload_n (pc' := 14) rfl rfl rfl ?_
      refine h_call (sp := false) (pc' := 17) (M := [(0, .ref 98), (1, .int x1)]) rfl rfl rfl rfl rfl rfl rfl rfl ?_
      refine h_iload_n (pc' := 1) rfl rfl rfl ?_
      refine h_i2l (pc' := 2) rfl rfl hx1 (fun z9 hz9 => ?_)
      refine h_lconst (pc' := 3) (x := (Int64.ofInt 0)) rfl rfl rfl ?_
      refine h_aload_n (pc' := 4) rfl rfl rfl ?_
      refine h_getI (pc' := 7) (v := σ 98 1) rfl rfl rfl rfl rfl rfl (fun z10 hz10 => ?_)
      have tz10 := tf_98_1 hI
      refine h_iconst (pc' := 8) (x := (Int32.ofInt 1)) rfl rfl rfl ?_
      refine h_isub (pc' := 9) rfl rfl hz10 ci_1 rfl (by omega) (by omega) (fun z11 hz11 => ?_)
      refine h_i2l (pc' := 10) rfl rfl hz11 (fun z12 hz12 => ?_)
      refine h_calls (pc' := 13) (M := [(0, .long z9), (2, .long (Int64.ofInt 0)), (4, .long z12)]) rfl rfl rfl rfl rfl rfl ?_
      refine h_lload_n (pc' := 1) rfl rfl rfl ?_
      refine h_lload_n (pc' := 2) rfl rfl rfl ?_
      refine h_lcmp (pc' := 3) rfl rfl hz9 cl_0 (fun z13 hz13 => ?_)
      refine h_zlt (tg := 17) (pc' := 6) rfl rfl rfl rfl (fun c14 => ?_) (fun c14 => ?_)
      · replace c14 := (h_lcr hz13).1 c14
        clear hz13
        refine h_iconst (pc' := 18) (x := (Int32.ofInt 0)) rfl rfl rfl ?_
        refine h_zret rfl rfl ci_0 (by omega) (h_Kv ?_)
        refine h_zret rfl rfl ci_0 (by omega) (h_Kv ?_)
        refine h_zeq (tg := 40) (pc' := 20) rfl rfl rfl ci_0 (fun c15 => ?_) (fun c15 => absurd c15 (by omega))
        refine h_ldc2 (pc' := 43) (x := (Int64.ofInt (-1))) rfl rfl rfl ?_
        exact h_lret rfl rfl (kk _ _ hI F00 (Or.inl ⟨by omega, cl_m1⟩))
      · replace c14 := (h_lcr hz13).2.1 c14
        clear hz13
        refine h_lload_n (pc' := 7) rfl rfl rfl ?_
        refine h_lload (pc' := 9) rfl rfl rfl ?_
        refine h_lcmp (pc' := 10) rfl rfl hz9 hz12 (fun z16 hz16 => ?_)
        refine h_zgt (tg := 17) (pc' := 13) rfl rfl rfl rfl (fun c17 => ?_) (fun c17 => ?_)
        · replace c17 := (h_lcr hz16).2.2.2.1 c17
          clear hz16
          refine h_iconst (pc' := 18) (x := (Int32.ofInt 0)) rfl rfl rfl ?_
          refine h_zret rfl rfl ci_0 (by omega) (h_Kv ?_)
          refine h_zret rfl rfl ci_0 (by omega) (h_Kv ?_)
          refine h_zeq (tg := 40) (pc' := 20) rfl rfl rfl ci_0 (fun c18 => ?_) (fun c18 => absurd c18 (by omega))
          refine h_ldc2 (pc' := 43) (x := (Int64.ofInt (-1))) rfl rfl rfl ?_
          exact h_lret rfl rfl (kk _ _ hI F00 (Or.inl ⟨by omega, cl_m1⟩))
        · replace c17 := (h_lcr hz16).2.2.1 c17
          clear hz16
          refine h_iconst (pc' := 14) (x := (Int32.ofInt 1)) rfl rfl rfl ?_
          refine h_goto (pc' := 18) rfl rfl ?_
          refine h_zret rfl rfl ci_1 (by omega) (h_Kv ?_)
          refine h_zret rfl rfl ci_1 (by omega) (h_Kv ?_)
          refine h_zeq (tg := 40) (pc' := 20) rfl rfl rfl ci_1 (fun c19 => absurd c19 (by omega)) (fun c19 => ?_)
          refine h_iload_n (pc' := 21) rfl rfl rfl ?_
          refine h_i2l (pc' := 22) rfl rfl hx2 (fun z20 hz20 => ?_)
          refine h_lconst (pc' := 23) (x := (Int64.ofInt 0)) rfl rfl rfl ?_
          refine h_lconst (pc' := 24) (x := (Int64.ofInt 1)) rfl rfl rfl ?_
          refine h_calls (pc' := 27) (M := [(0, .long z20), (2, .long (Int64.ofInt 0)), (4, .long (Int64.ofInt 1))]) rfl rfl rfl rfl rfl rfl ?_
          refine h_lload_n (pc' := 1) rfl rfl rfl ?_
          refine h_lload_n (pc' := 2) rfl rfl rfl ?_
          refine h_lcmp (pc' := 3) rfl rfl hz20 cl_0 (fun z21 hz21 => ?_)
          refine h_zlt (tg := 17) (pc' := 6) rfl rfl rfl rfl (fun c22 => ?_) (fun c22 => ?_)
          · replace c22 := (h_lcr hz21).1 c22
            clear hz21
            refine h_iconst (pc' := 18) (x := (Int32.ofInt 0)) rfl rfl rfl ?_
            refine h_zret rfl rfl ci_0 (by omega) (h_Kv ?_)
            refine h_zeq (tg := 40) (pc' := 30) rfl rfl rfl ci_0 (fun c23 => ?_) (fun c23 => absurd c23 (by omega))
            refine h_ldc2 (pc' := 43) (x := (Int64.ofInt (-1))) rfl rfl rfl ?_
            exact h_lret rfl rfl (kk _ _ hI F00 (Or.inl ⟨by omega, cl_m1⟩))
          · replace c22 := (h_lcr hz21).2.1 c22
            clear hz21
            refine h_lload_n (pc' := 7) rfl rfl rfl ?_
            refine h_lload (pc' := 9) rfl rfl rfl ?_
            refine h_lcmp (pc' := 10) rfl rfl hz20 cl_1 (fun z24 hz24 => ?_)
            refine h_zgt (tg := 17) (pc' := 13) rfl rfl rfl rfl (fun c25 => ?_) (fun c25 => ?_)
            · replace c25 := (h_lcr hz24).2.2.2.1 c25
              clear hz24
              refine h_iconst (pc' := 18) (x := (Int32.ofInt 0)) rfl rfl rfl ?_
              refine h_zret rfl rfl ci_0 (by omega) (h_Kv ?_)
              refine h_zeq (tg := 40) (pc' := 30) rfl rfl rfl ci_0 (fun c26 => ?_) (fun c26 => absurd c26 (by omega))
              refine h_ldc2 (pc' := 43) (x := (Int64.ofInt (-1))) rfl rfl rfl ?_
              exact h_lret rfl rfl (kk _ _ hI F00 (Or.inl ⟨by omega, cl_m1⟩))
            · replace c25 := (h_lcr hz24).2.2.1 c25
              clear hz24
              refine h_iconst (pc' := 14) (x := (Int32.ofInt 1)) rfl rfl rfl ?_
              refine h_goto (pc' := 18) rfl rfl ?_
              refine h_zret rfl rfl ci_1 (by omega) (h_Kv ?_)
              refine h_zeq (tg := 40) (pc' := 30) rfl rfl rfl ci_1 (fun c27 => absurd c27 (by omega)) (fun c27 => ?_)
              refine h_aload_n (pc' := 31) rfl rfl rfl ?_
              refine h_iload_n (pc' := 32) rfl rfl rfl ?_
              refine h_iload_n (pc' := 33) rfl rfl rfl ?_
              refine h_iload_n (pc' := 34) rfl rfl rfl ?_
              refine h_call (sp := false) (pc' := 37) (M := [(0, .ref 98), (1, .int x0), (2, .int x1), (3, .int x2)]) rfl rfl rfl rfl rfl rfl rfl rfl ?_
              refine n_away _ hI x0 _ hx0 (by omega) x1 _ hx1 x2 _ hx2 pr0 (fun r28 s29 Is29 Gs29 ps29_0 => h_Kv ?_)
              have Fs29 := (Gs29.mono (B := kf_n_luckM) rfl).tr F00
              have es29_0 : s29 98 13 = σ 98 13 := (Gs29 98 13 rfl).trans rfl
              refine h_goto (pc' := 43) rfl rfl ?_
              exact h_lret rfl rfl (kk _ _ Is29 Fs29 (Or.inr ⟨by omega, ps29_0⟩))
theorem c_R.luckR {s s' : h_S} {a0 a0' a1 a1' a2 a2' : Int} {r u : Int64} (h : c_R true s') (hI : h_I s') (ht : g_ti s') (e8 : s' 10 8 = s 10 8) (e9 : s' 10 9 = s 10 9) (e10 : s' 10 10 = s 10 10) (e11 : s' 11 = s 11) (e12 : s' 12 = s 12) (e13 : s' 13 2 = s 13 2) (e14 : s' 14 = s 14) (e15 : s' 15 = s 15) (e16 : s' 16 2 = s 16 2) (e17 : s' 17 = s 17) (e18 : s' 18 = s 18) (e19 : s' 19 = s 19) (e20 : s' 20 = s 20) (e22 : s' 22 = s 22) (hX : (¬ (0 ≤ a0 ∧ a0 ≤ 10 ∧ 0 ≤ a1 ∧ a1 < s 10 8 ∧ (a2 = 0 ∨ a2 = 1)) ∧ r.toInt = -1) ∨ ((0 ≤ a0 ∧ a0 ≤ 10 ∧ 0 ≤ a1 ∧ a1 < s 10 8 ∧ (a2 = 0 ∨ a2 = 1)) ∧ ∃ D f, g_DX (s 10 8) (s 12) (s 11) (s 13 2) (s 14) (s 15) D ∧ g_FX (s 10 8) (s 17) (s 18) (s 16 2) f ∧ ∃ t g : Int64, t.toInt = (if a2 = 0 then (g_sq (g_hw a0 (s 10 8) (fun aw => g_hb (g_pf (fun p l g => g_yX (s 10 8) D f p l (s 19 g)) aw (s 22) (s 20, 0, 0) (s 10 10).toNat).2.1 a1)) (g_2p (s 10 8)).toNat) else 10 ^ (s 10 8).toNat) ∧ g.toInt = g_eu 1000 (g_sq (g_hw a0 (s 10 8) (fun aw => g_hb (g_pf (fun p l g => g_yX (s 10 8) D f p l (s 19 g)) aw (s 22) (s 20, 0, 0) (s 10 10).toNat).2.1 a1)) (g_2p (s 10 8)).toNat) (10 ^ (s 10 8).toNat) ∧ r = t / g)) (hM : (¬ (0 ≤ a0' ∧ a0' ≤ 10 ∧ 0 ≤ a1' ∧ a1' < s' 98 1 ∧ (a2' = 0 ∨ a2' = 1)) ∧ u.toInt = -1) ∨ ((0 ≤ a0' ∧ a0' ≤ 10 ∧ 0 ≤ a1' ∧ a1' < s' 98 1 ∧ (a2' = 0 ∨ a2' = 1)) ∧ ∃ T : Int, g_sr (g_aR (k_in kf_n_away) s' a1') a0' (s' 98 1) (g_2p (s' 98 1)).toNat T ∧ ∃ t g : Int64, t.toInt = (if a2' = 0 then T else (10 ^ (s' 98 1).toNat)) ∧ g.toInt = g_eu 1000 T (10 ^ (s' 98 1).toNat) ∧ u = t / g)) (h0 : a0' = a0) (h1 : a1' = a1) (h2 : a2' = a2) : r.toInt = u.toInt := by
  subst h0; subst h1; subst h2
  rw [← e8, ← e10, ← e11, ← e12, ← e13, ← e14, ← e15, ← e16, ← e17, ← e18, ← e19, ← e20, ← e22] at hX
  have sz := h.sz
  rcases hX with q | q
  · rcases hM with w | w
    · rw [q.2, w.2]
    · exact absurd (by have w1 := w.1; omega) q.1
  · rcases hM with w | w
    · exact absurd (by have q1 := q.1; omega) w.1
    · obtain ⟨rg, D, f, hD, hf, t, g, ht1, hg1, hr⟩ := q
      obtain ⟨-, T, hT, t', g', ht2, hg2, hu⟩ := w
      have eT : T = g_sq (g_hw a0' (s' 10 8) (fun aw => g_hb (g_pf (fun p l g => g_yX (s' 10 8) D f p l (s' 19 g)) aw (s' 22) (s' 20, 0, 0) (s' 10 10).toNat).2.1 a1')) (g_2p (s' 10 8)).toNat := by
        rw [← sz.1] at hT
        refine g_sr_q (fun a x hx => ?_) _ T hT
        obtain ⟨o, τ, Io, Fo, hG, hM, c⟩ := hx
        have o10_8 : o 10 8 = s' 10 8 := Fo 10 8 rfl
        have o10_9 : o 10 9 = s' 10 9 := Fo 10 9 rfl
        have o10_10 : o 10 10 = s' 10 10 := Fo 10 10 rfl
        have o11 : o 11 = s' 11 := funext (fun j => Fo 11 j rfl)
        have o12 : o 12 = s' 12 := funext (fun j => Fo 12 j rfl)
        have o13_2 : o 13 2 = s' 13 2 := Fo 13 2 rfl
        have o14 : o 14 = s' 14 := funext (fun j => Fo 14 j rfl)
        have o15 : o 15 = s' 15 := funext (fun j => Fo 15 j rfl)
        have o16_2 : o 16 2 = s' 16 2 := Fo 16 2 rfl
        have o17 : o 17 = s' 17 := funext (fun j => Fo 17 j rfl)
        have o18 : o 18 = s' 18 := funext (fun j => Fo 18 j rfl)
        have o19 : o 19 = s' 19 := funext (fun j => Fo 19 j rfl)
        have o20 : o 20 = s' 20 := funext (fun j => Fo 20 j rfl)
        have o22 : o 22 = s' 22 := funext (fun j => Fo 22 j rfl)
        have ho : c_R true o := h.fr hI Fo rfl
        have e := c_R.run2 (F := D) (f := f) ho Io (g_ti.e ht (funext (fun j => Fo 100 j rfl))) (by rw [o10_8, o12, o11, o13_2, o14, o15]; exact hD) hG (by rw [o10_8, o17, o18, o16_2]; exact hf) hM
        rw [o10_8, o10_10, o19, o20, o22] at e
        obtain ⟨e1, e2, e3⟩ := e
        rcases c with c | c
        · exfalso
          omega
        · show x = g_hb (g_pf (fun p l g => g_yX (s' 10 8) D f p l (s' 19 g)) a (s' 22) (s' 20, 0, 0) (s' 10 10).toNat).2.1 a1'
          rw [c.2, ← e1]
      rw [← sz.1, eT] at ht2 hg2
      rw [g_fr (ht1.trans ht2.symm) (hg1.trans hg2.symm) hr hu]
