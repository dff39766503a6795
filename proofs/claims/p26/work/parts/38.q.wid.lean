/-! WIDEN -/
theorem g_bs_8 {n : Int} {c : Int → Bool} : ∀ (m : Nat) (q : Int) (b : Int32), 0 ≤ q → q + m ≤ 8 → (0 ≤ b.toInt ∧ b.toInt ≤ 255) → (0 ≤ (g_bs n c m q b).toInt ∧ (g_bs n c m q b).toInt ≤ 255)
  | 0, _, _, _, _, hb => hb
  | m + 1, q, b, q0, q8, hb => by
    show 0 ≤ (if q < n then g_bs n c m (q + 1) (if c q = true then g_or b q else b) else b).toInt ∧ (if q < n then g_bs n c m (q + 1) (if c q = true then g_or b q else b) else b).toInt ≤ 255
    by_cases z : q < n
    · rw [if_pos z]
      refine g_bs_8 m _ _ (by omega) (by omega) ?_
      by_cases y : c q = true
      · rw [if_pos y]
        exact g_or_8 hb ⟨q0, by omega⟩
      · rw [if_neg y]
        exact hb
    · rw [if_neg z]
      exact hb
theorem g_wd {y x : Int32} {n n' b l r : Int} {F f : Int → Int} (h1 : y = g_bc x) (h2 : x = g_bs n' (g_lq n' F f l r) 6 0 0) (hn : n' = n) (hb : y.toInt = b) : b = (g_bc (g_bs n (g_lq n F f l r) 6 0 0)).toInt := by
  subst hn
  rw [← hb, h1, h2]
theorem g_wm {x : Int32} {n n' b g r : Int} {D S S' : Int → Int} (hb : b = g_bn8 x 8) (h2 : x = g_bs n' (fun p => g_yM D (fun i => S' (19 + 2 * i)) (fun i => S' (19 + 2 * i + 1)) (S' 25) p (g_orn (S' (29 + g))) r) 6 0 0) (hn : n' = n) (hS : S' = S) : b = g_bn8 (g_bs n (fun p => g_yM D (fun i => S (19 + 2 * i)) (fun i => S (19 + 2 * i + 1)) (S 25) p (g_orn (S (29 + g))) r) 6 0 0) 8 := by
  subst hn; subst hS
  rw [hb, h2]
theorem c_R.wd {s : h_S} {F G f : Int → Int} (h : c_R true s) (hI : h_I s) (ht : g_ti s) (hF : g_DX (s 10 8) (s 12) (s 11) (s 13 2) (s 14) (s 15) F) (hG : g_DM (s 98 1) (s 99 18) (s 99) (s 100) G) (hf : g_FX (s 10 8) (s 17) (s 18) (s 16 2) f) : g_bs (s 10 9) (fun g => decide ((g_bc (g_bs (s 10 8) (g_lq (s 10 8) F f (s 20 g) (s 19 g)) 6 0 0)).toInt < (g_bc (g_bs (s 10 8) (g_lq (s 10 8) F f (s 20 g) (s 19 g + 1)) 6 0 0)).toInt)) 3 0 0 = g_bs (s 98 2) (fun g => decide (g_bn8 (g_bs (s 98 1) (fun p => g_yM G (fun i => s 99 (19 + 2 * i)) (fun i => s 99 (19 + 2 * i + 1)) (s 99 25) p (g_orn (s 99 (29 + g))) (s 99 (26 + g))) 6 0 0) 8 < g_bn8 (g_bs (s 98 1) (fun p => g_yM G (fun i => s 99 (19 + 2 * i)) (fun i => s 99 (19 + 2 * i + 1)) (s 99 25) p (g_orn (s 99 (29 + g))) (s 99 (26 + g) + 1)) 6 0 0) 8)) 3 0 0 := by
  rw [← h.sz.2.1]
  refine g_bs_eq (fun g a b => ?_) 3 0 0 (by omega)
  have rc := h.rc a b
  have ty := ty_19 hI g
  have e0 := h.lets hI ht hF hG hf (g := g) (r := s 19 g) (r' := s 99 (26 + g)) ⟨a, b⟩ rfl rfl rfl rfl rfl rfl rfl rc (by omega)
  have e1 := h.lets hI ht hF hG hf (g := g) (r := s 19 g + 1) (r' := s 99 (26 + g) + 1) ⟨a, b⟩ rfl rfl rfl rfl rfl rfl rfl (by omega) (by omega)
  have z : ∀ c : Int → Bool, 0 ≤ (g_bs (s 10 8) c 6 0 0).toInt ∧ (g_bs (s 10 8) c 6 0 0).toInt ≤ 255 := fun c => g_bs_8 6 0 0 (by omega) (by omega) (by decide)
  have k0 := g_bc_8 (z (g_lq (s 10 8) F f (s 20 g) (s 19 g)))
  have k1 := g_bc_8 (z (g_lq (s 10 8) F f (s 20 g) (s 19 g + 1)))
  rw [e0] at k0
  rw [e1] at k1
  refine decide_eq_decide.mpr ?_
  rw [e0, e1, k0, k1]
def kf_n_widX : List Nat := [80898, 82943, 83967]
set_option maxHeartbeats 100000000 in
set_option maxHeartbeats 100000000 in
theorem n_widX_l (ns : Nat) (σ : h_S) (hI : h_I σ) {Q : Option Value → h_S → Prop} (kk : ∀ (r : Int32) (b : Int) (hb : r.toInt = b) (τ : h_S), h_I τ → h_F (k_in kf_n_widX) τ σ → (g_DX (σ 10 8) (σ 12) (σ 11) (σ 13 2) (σ 14) (σ 15) (τ 80)) → (g_FX (σ 10 8) (σ 17) (σ 18) (σ 16 2) (τ 81)) → (r = g_bs (σ 10 9) (fun g => decide ((g_bc (g_bs (σ 10 8) (g_lq (σ 10 8) (τ 80) (τ 81) (σ 20 g) (σ 19 g)) 6 0 0)).toInt < (g_bc (g_bs (σ 10 8) (g_lq (σ 10 8) (τ 80) (τ 81) (σ 20 g) (σ 19 g + 1)) 6 0 0)).toInt)) 3 0 0) → Q (some (.int r)) τ) : ∀ n : Nat, (∀ (s0 : h_S), h_I s0 → h_F (k_in kf_n_widX) s0 σ → ∀ (y1 : Int32) (b1 : Int), y1.toInt = b1 → ∀ (y2 : Int32) (b2 : Int), y2.toInt = b2 → (0 ≤ b2 ∧ b2 ≤ 3) → (g_DX (σ 10 8) (σ 12) (σ 11) (σ 13 2) (σ 14) (σ 15) (s0 80)) → (s0 79 2 = σ 10 8) → (g_FX (σ 10 8) (σ 17) (σ 18) (σ 16 2) (s0 81)) → (g_bs (σ 10 9) (fun g => decide ((g_bc (g_bs (σ 10 8) (g_lq (σ 10 8) (s0 80) (s0 81) (σ 20 g) (σ 19 g)) 6 0 0)).toInt < (g_bc (g_bs (σ 10 8) (g_lq (σ 10 8) (s0 80) (s0 81) (σ 20 g) (σ 19 g + 1)) 6 0 0)).toInt)) (3 - b2).toNat b2 y1 = g_bs (σ 10 9) (fun g => decide ((g_bc (g_bs (σ 10 8) (g_lq (σ 10 8) (s0 80) (s0 81) (σ 20 g) (σ 19 g)) 6 0 0)).toInt < (g_bc (g_bs (σ 10 8) (g_lq (σ 10 8) (s0 80) (s0 81) (σ 20 g) (σ 19 g + 1)) 6 0 0)).toInt)) 3 0 0) → (3 + 1 - b2) * 1000000 + 1000000000 ≤ (n : Int) → h_T g_P (g_Y ns) 106 15 [(0, .ref 9), (1, .int y1), (2, .int y2)] [] s0 Q) := by
  intro n
  induction n with
  | zero => exact by intro s0 I0 F0_ y1 b1 hy1 y2 b2 hy2 ry2 ex0 ex1 ex2 ex3 hm; have gh0 := F0_ 10 9 rfl; have gh1 := tf_10_9 hI; exfalso; omega
  | succ n ih =>
    intro s0 I0 F0_ y1 b1 hy1 y2 b2 hy2 ry2 ex0 ex1 ex2 ex3 hm; have gh0 := F0_ 10 9 rfl; have gh1 := tf_10_9 hI
    refine h_iload_n (pc' := 16) rfl rfl rfl ?_
    refine h_aload_n (pc' := 17) rfl rfl rfl ?_
    refine h_getR (pc' := 20) rfl rfl rfl rfl rfl ?_
    refine h_getI (pc' := 23) (v := σ 10 9) rfl rfl rfl rfl rfl (F0_ 10 9 rfl) (fun z1 hz1 => ?_)
    have tz1 := tf_10_9 hI
    refine h_cge (tg := 105) (pc' := 26) rfl rfl rfl hy2 hz1 (fun c2 => ?_) (fun c2 => ?_)
    · refine h_iload_n (pc' := 106) rfl rfl rfl ?_
      exact h_iret rfl rfl (kk _ _ hy1 _ I0 F0_ ex0 ex2 (g_bs_o ex3 (by omega)))
    · refine h_aload_n (pc' := 27) rfl rfl rfl ?_
      refine h_getR (pc' := 30) rfl rfl rfl rfl rfl ?_
      refine h_aload_n (pc' := 31) rfl rfl rfl ?_
      refine h_getR (pc' := 34) rfl rfl rfl rfl rfl ?_
      refine h_getR (pc' := 37) rfl rfl rfl rfl rfl ?_
      refine h_iload_n (pc' := 38) rfl rfl rfl ?_
      refine h_iald (pc' := 39) (v := σ 20 b2) rfl rfl rfl hy2 (by omega) (by omega) (F0_ 20 _ rfl) (fun z3 hz3 => ?_)
      have tz3 := ty_20 hI b2
      refine h_aload_n (pc' := 40) rfl rfl rfl ?_
      refine h_getR (pc' := 43) rfl rfl rfl rfl rfl ?_
      refine h_getR (pc' := 46) rfl rfl rfl rfl rfl ?_
      refine h_iload_n (pc' := 47) rfl rfl rfl ?_
      refine h_iald (pc' := 48) (v := σ 19 b2) rfl rfl rfl hy2 (by omega) (by omega) (F0_ 19 _ rfl) (fun z4 hz4 => ?_)
      have tz4 := ty_19 hI b2
      refine h_call (sp := false) (pc' := 51) (M := [(0, .ref 79), (1, .int z3), (2, .int z4)]) rfl rfl rfl rfl rfl rfl rfl rfl ?_
      refine n_let _ I0 z3 _ hz3 z4 _ hz4 (fun r5 br5 hr5 ps6_0 => h_Kv ?_)
      refine h_istore_n (pc' := 52) (M := [(3, .int r5), (0, .ref 9), (1, .int y1), (2, .int y2)]) rfl rfl rfl rfl ?_
      refine h_aload_n (pc' := 53) rfl rfl rfl ?_
      refine h_getR (pc' := 56) rfl rfl rfl rfl rfl ?_
      refine h_aload_n (pc' := 57) rfl rfl rfl ?_
      refine h_getR (pc' := 60) rfl rfl rfl rfl rfl ?_
      refine h_getR (pc' := 63) rfl rfl rfl rfl rfl ?_
      refine h_iload_n (pc' := 64) rfl rfl rfl ?_
      refine h_iald (pc' := 65) (v := σ 20 b2) rfl rfl rfl hy2 (by omega) (by omega) (F0_ 20 _ rfl) (fun z7 hz7 => ?_)
      have tz7 := ty_20 hI b2
      refine h_aload_n (pc' := 66) rfl rfl rfl ?_
      refine h_getR (pc' := 69) rfl rfl rfl rfl rfl ?_
      refine h_getR (pc' := 72) rfl rfl rfl rfl rfl ?_
      refine h_iload_n (pc' := 73) rfl rfl rfl ?_
      refine h_iald (pc' := 74) (v := σ 19 b2) rfl rfl rfl hy2 (by omega) (by omega) (F0_ 19 _ rfl) (fun z8 hz8 => ?_)
      have tz8 := ty_19 hI b2
      refine h_iconst (pc' := 75) (x := (Int32.ofInt 1)) rfl rfl rfl ?_
      refine h_iadd (pc' := 76) rfl rfl hz8 ci_1 rfl (by omega) (by omega) (fun z9 hz9 => ?_)
      refine h_call (sp := false) (pc' := 79) (M := [(0, .ref 79), (1, .int z7), (2, .int z9)]) rfl rfl rfl rfl rfl rfl rfl rfl ?_
      refine n_let _ I0 z7 _ hz7 z9 _ hz9 (fun r10 br10 hr10 ps11_0 => h_Kv ?_)
      refine h_istore (pc' := 81) (M := [(4, .int r10), (3, .int r5), (0, .ref 9), (1, .int y1), (2, .int y2)]) rfl rfl rfl rfl ?_
      refine h_iload (pc' := 83) rfl rfl rfl ?_
      refine h_calls (pc' := 86) (M := [(0, .int r10)]) rfl rfl rfl rfl rfl rfl ?_
      refine n_bc _ I0 r10 _ hr10 (fun r12 br12 hr12 tr12 ps13_0 => h_Kv ?_)
      refine h_iload_n (pc' := 87) rfl rfl rfl ?_
      refine h_calls (pc' := 90) (M := [(0, .int r5)]) rfl rfl rfl rfl rfl rfl ?_
      refine n_bc _ I0 r5 _ hr5 (fun r14 br14 hr14 tr14 ps15_0 => h_Kv ?_)
      refine h_cle (tg := 99) (pc' := 93) rfl rfl rfl hr12 hr14 (fun c16 => ?_) (fun c16 => ?_)
      · refine h_iinc (pc' := 102) (M := fun z17 => [(2, .int z17), (4, .int r10), (3, .int r5), (0, .ref 9), (1, .int y1)]) rfl rfl rfl rfl hy2 ci_1 rfl (by omega) (by omega) (fun _ => rfl) (fun z17 hz17 => ?_)
        refine h_goto (pc' := 15) rfl rfl ?_
        exact h_wk [(0, .ref 9), (1, .int y1), (2, .int z17)] ⟨rfl, rfl, rfl, trivial⟩ (ih _ I0 F0_ y1 _ hy1 z17 _ hz17 (by omega) ex0 ex1 ex2 (by have k0 := g_wd ps15_0 ps6_0 ex1 hr14; have k1 := g_wd ps13_0 ps11_0 ex1 hr12; exact g_bs_n ex3 (by omega) (by omega) (decide_eq_false (by omega)) rfl) (by omega))
      · refine h_iload_n (pc' := 94) rfl rfl rfl ?_
        refine h_iconst (pc' := 95) (x := (Int32.ofInt 1)) rfl rfl rfl ?_
        refine h_iload_n (pc' := 96) rfl rfl rfl ?_
        refine h_shl1 (pc' := 97) rfl rfl ci_1 hy2 (by omega) (by omega) (fun z18 hz18 vz18 => ?_)
        refine h_ior (pc' := 98) rfl rfl (fun z19 hz19 => ?_)
        refine h_istore_n (pc' := 99) (M := [(1, .int z19), (4, .int r10), (3, .int r5), (0, .ref 9), (2, .int y2)]) rfl rfl rfl rfl ?_
        refine h_iinc (pc' := 102) (M := fun z20 => [(2, .int z20), (1, .int z19), (4, .int r10), (3, .int r5), (0, .ref 9)]) rfl rfl rfl rfl hy2 ci_1 rfl (by omega) (by omega) (fun _ => rfl) (fun z20 hz20 => ?_)
        refine h_goto (pc' := 15) rfl rfl ?_
        exact h_wk [(0, .ref 9), (1, .int z19), (2, .int z20)] ⟨rfl, rfl, rfl, trivial⟩ (ih _ I0 F0_ z19 _ rfl z20 _ hz20 (by omega) ex0 ex1 ex2 (by have k0 := g_wd ps15_0 ps6_0 ex1 hr14; have k1 := g_wd ps13_0 ps11_0 ex1 hr12; exact g_bs_y ex3 (by omega) (by omega) (decide_eq_true (by omega)) (g_or_of hz19 hz18 hy2)) (by omega))
set_option maxHeartbeats 100000000 in
set_option maxHeartbeats 100000000 in
theorem n_widX {ns : Nat} (σ : h_S) (hI : h_I σ) {Q : Option Value → h_S → Prop} (kk : ∀ (r : Int32) (b : Int) (hb : r.toInt = b) (τ : h_S), h_I τ → h_F (k_in kf_n_widX) τ σ → (g_DX (σ 10 8) (σ 12) (σ 11) (σ 13 2) (σ 14) (σ 15) (τ 80)) → (g_FX (σ 10 8) (σ 17) (σ 18) (σ 16 2) (τ 81)) → (r = g_bs (σ 10 9) (fun g => decide ((g_bc (g_bs (σ 10 8) (g_lq (σ 10 8) (τ 80) (τ 81) (σ 20 g) (σ 19 g)) 6 0 0)).toInt < (g_bc (g_bs (σ 10 8) (g_lq (σ 10 8) (τ 80) (τ 81) (σ 20 g) (σ 19 g + 1)) 6 0 0)).toInt)) 3 0 0) → Q (some (.int r)) τ) : h_T g_P (g_Y ns) 106 0 [(0, .ref 9)] [] σ Q := by
  have F00 : h_F (k_in kf_n_widX) σ σ := h_F.rf
  refine h_aload_n (pc' := 1) rfl rfl rfl ?_
  refine h_getR (pc' := 4) rfl rfl rfl rfl rfl ?_
  refine h_aload_n (pc' := 5) rfl rfl rfl ?_
  refine h_getR (pc' := 8) rfl rfl rfl rfl rfl ?_
  refine h_call (sp := false) (pc' := 11) (M := [(0, .ref 79), (1, .ref 10)]) rfl rfl rfl rfl rfl rfl rfl rfl ?_
  refine n_measure_10 _ hI  (fun s2 Is2 Gs2 ps2_0 ps2_1 ps2_2 => h_Kn ?_)
  have Fs2 := (Gs2.mono (B := kf_n_widX) rfl).tr F00
  have es2_0 : s2 98 13 = σ 98 13 := (Gs2 98 13 rfl).trans rfl
  refine h_iconst (pc' := 12) (x := (Int32.ofInt 0)) rfl rfl rfl ?_
  refine h_istore_n (pc' := 13) (M := [(1, .int (Int32.ofInt 0)), (0, .ref 9)]) rfl rfl rfl rfl ?_
  refine h_iconst (pc' := 14) (x := (Int32.ofInt 0)) rfl rfl rfl ?_
  refine h_istore_n (pc' := 15) (M := [(2, .int (Int32.ofInt 0)), (1, .int (Int32.ofInt 0)), (0, .ref 9)]) rfl rfl rfl rfl ?_
  exact h_wk [(0, .ref 9), (1, .int (Int32.ofInt 0)), (2, .int (Int32.ofInt 0))] ⟨rfl, rfl, rfl, trivial⟩ ((n_widX_l ns σ hI  kk 1000000000000) _ Is2 Fs2 (Int32.ofInt 0) _ ci_0 (Int32.ofInt 0) _ ci_0 (by omega) ps2_0 (by omega) ps2_2 rfl (by omega))
def kf_n_widM : List Nat := [108543]
set_option maxHeartbeats 100000000 in
set_option maxHeartbeats 100000000 in
theorem n_widM_l (ns : Nat) (σ : h_S) (hI : h_I σ) {Q : Option Value → h_S → Prop} (kk : ∀ (r : Int32) (b : Int) (hb : r.toInt = b) (τ : h_S), h_I τ → h_F (k_in kf_n_widM) τ σ → (g_DM (σ 98 1) (σ 99 18) (σ 99) (σ 100) (τ 105)) → (r = g_bs (σ 98 2) (fun g => decide (g_bn8 (g_bs (σ 98 1) (fun p => g_yM (τ 105) (fun i => σ 99 (19 + 2 * i)) (fun i => σ 99 (19 + 2 * i + 1)) (σ 99 25) p (g_orn (σ 99 (29 + g))) (σ 99 (26 + g))) 6 0 0) 8 < g_bn8 (g_bs (σ 98 1) (fun p => g_yM (τ 105) (fun i => σ 99 (19 + 2 * i)) (fun i => σ 99 (19 + 2 * i + 1)) (σ 99 25) p (g_orn (σ 99 (29 + g))) (σ 99 (26 + g) + 1)) 6 0 0) 8)) 3 0 0) → Q (some (.int r)) τ) : ∀ n : Nat, (∀ (s0 : h_S), h_I s0 → h_F (k_in kf_n_widM) s0 σ → ∀ (y1 : Int32) (b1 : Int), y1.toInt = b1 → ∀ (y2 : Int32) (b2 : Int), y2.toInt = b2 → (0 ≤ b2 ∧ b2 ≤ 3) → (g_DM (σ 98 1) (σ 99 18) (σ 99) (σ 100) (s0 105)) → (g_bs (σ 98 2) (fun g => decide (g_bn8 (g_bs (σ 98 1) (fun p => g_yM (s0 105) (fun i => σ 99 (19 + 2 * i)) (fun i => σ 99 (19 + 2 * i + 1)) (σ 99 25) p (g_orn (σ 99 (29 + g))) (σ 99 (26 + g))) 6 0 0) 8 < g_bn8 (g_bs (σ 98 1) (fun p => g_yM (s0 105) (fun i => σ 99 (19 + 2 * i)) (fun i => σ 99 (19 + 2 * i + 1)) (σ 99 25) p (g_orn (σ 99 (29 + g))) (σ 99 (26 + g) + 1)) 6 0 0) 8)) (3 - b2).toNat b2 y1 = g_bs (σ 98 2) (fun g => decide (g_bn8 (g_bs (σ 98 1) (fun p => g_yM (s0 105) (fun i => σ 99 (19 + 2 * i)) (fun i => σ 99 (19 + 2 * i + 1)) (σ 99 25) p (g_orn (σ 99 (29 + g))) (σ 99 (26 + g))) 6 0 0) 8 < g_bn8 (g_bs (σ 98 1) (fun p => g_yM (s0 105) (fun i => σ 99 (19 + 2 * i)) (fun i => σ 99 (19 + 2 * i + 1)) (σ 99 25) p (g_orn (σ 99 (29 + g))) (σ 99 (26 + g) + 1)) 6 0 0) 8)) 3 0 0) → (3 + 1 - b2) * 1000000 + 1000000000 ≤ (n : Int) → h_T g_P (g_Y ns) 203 9 [(0, .ref 98), (1, .int y1), (2, .int y2)] [] s0 Q) := by
  intro n
  induction n with
  | zero => exact by intro s0 I0 F0_ y1 b1 hy1 y2 b2 hy2 ry2 ex0 ex1 hm; have gh0 := F0_ 98 2 rfl; have gh1 := tf_98_2 hI; exfalso; omega
  | succ n ih =>
    intro s0 I0 F0_ y1 b1 hy1 y2 b2 hy2 ry2 ex0 ex1 hm; have gh0 := F0_ 98 2 rfl; have gh1 := tf_98_2 hI
    refine h_iload_n (pc' := 10) rfl rfl rfl ?_
    refine h_aload_n (pc' := 11) rfl rfl rfl ?_
    refine h_getI (pc' := 14) (v := σ 98 2) rfl rfl rfl rfl rfl (F0_ 98 2 rfl) (fun z1 hz1 => ?_)
    have tz1 := tf_98_2 hI
    refine h_cge (tg := 66) (pc' := 17) rfl rfl rfl hy2 hz1 (fun c2 => ?_) (fun c2 => ?_)
    · refine h_iload_n (pc' := 67) rfl rfl rfl ?_
      exact h_iret rfl rfl (kk _ _ hy1 _ I0 F0_ ex0 (g_bs_o ex1 (by omega)))
    · refine h_aload_n (pc' := 18) rfl rfl rfl ?_
      refine h_getR (pc' := 21) rfl rfl rfl rfl rfl ?_
      refine h_bipush (pc' := 23) (x := (Int32.ofInt 26)) rfl rfl cb_26 ?_
      refine h_iload_n (pc' := 24) rfl rfl rfl ?_
      refine h_iadd (pc' := 25) rfl rfl ci_26 hy2 rfl (by omega) (by omega) (fun z3 hz3 => ?_)
      refine h_iald (pc' := 26) (v := σ 99 (26 + b2)) rfl rfl rfl hz3 (by omega) (by omega) (F0_ 99 _ rfl) (fun z4 hz4 => ?_)
      have tz4 := ty_99_6 hI (26 + b2) (by omega)
      refine h_istore_n (pc' := 27) (M := [(3, .int z4), (0, .ref 98), (1, .int y1), (2, .int y2)]) rfl rfl rfl rfl ?_
      refine h_iload_n (pc' := 28) rfl rfl rfl ?_
      refine h_aload_n (pc' := 29) rfl rfl rfl ?_
      refine h_iload_n (pc' := 30) rfl rfl rfl ?_
      refine h_iload_n (pc' := 31) rfl rfl rfl ?_
      refine h_iconst (pc' := 32) (x := (Int32.ofInt 1)) rfl rfl rfl ?_
      refine h_iadd (pc' := 33) rfl rfl hz4 ci_1 rfl (by omega) (by omega) (fun z5 hz5 => ?_)
      refine h_call (sp := false) (pc' := 36) (M := [(0, .ref 98), (1, .int y2), (2, .int z5)]) rfl rfl rfl rfl rfl rfl rfl rfl ?_
      refine n_lets _ I0 y2 _ hy2 (by omega) z5 _ hz5 (fun r6 br6 hr6 ps7_0 => h_Kv ?_)
      refine h_calls (pc' := 39) (M := [(0, .int r6)]) rfl rfl rfl rfl rfl rfl ?_
      refine n_b8 _ I0 r6 _ hr6 (fun r8 br8 hr8 tr8 ps9_0 => h_Kv ?_)
      refine h_aload_n (pc' := 40) rfl rfl rfl ?_
      refine h_iload_n (pc' := 41) rfl rfl rfl ?_
      refine h_iload_n (pc' := 42) rfl rfl rfl ?_
      refine h_call (sp := false) (pc' := 45) (M := [(0, .ref 98), (1, .int y2), (2, .int z4)]) rfl rfl rfl rfl rfl rfl rfl rfl ?_
      refine n_lets _ I0 y2 _ hy2 (by omega) z4 _ hz4 (fun r10 br10 hr10 ps11_0 => h_Kv ?_)
      refine h_calls (pc' := 48) (M := [(0, .int r10)]) rfl rfl rfl rfl rfl rfl ?_
      refine n_b8 _ I0 r10 _ hr10 (fun r12 br12 hr12 tr12 ps13_0 => h_Kv ?_)
      refine h_cle (tg := 57) (pc' := 51) rfl rfl rfl hr8 hr12 (fun c14 => ?_) (fun c14 => ?_)
      · refine h_iconst (pc' := 58) (x := (Int32.ofInt 0)) rfl rfl rfl ?_
        refine h_ior (pc' := 59) rfl rfl (fun z15 hz15 => ?_)
        refine h_istore_n (pc' := 60) (M := [(1, .int z15), (3, .int z4), (0, .ref 98), (2, .int y2)]) rfl rfl rfl rfl ?_
        refine h_iinc (pc' := 63) (M := fun z16 => [(2, .int z16), (1, .int z15), (3, .int z4), (0, .ref 98)]) rfl rfl rfl rfl hy2 ci_1 rfl (by omega) (by omega) (fun _ => rfl) (fun z16 hz16 => ?_)
        refine h_goto (pc' := 9) rfl rfl ?_
        exact h_wk [(0, .ref 98), (1, .int z15), (2, .int z16)] ⟨rfl, rfl, rfl, trivial⟩ (ih _ I0 F0_ z15 _ rfl z16 _ hz16 (by omega) ex0 (by have k1 := g_wm ps9_0 ps7_0 (F0_ 98 1 rfl) (funext (fun j => F0_ 99 j rfl)); have k0 := g_wm ps13_0 ps11_0 (F0_ 98 1 rfl) (funext (fun j => F0_ 99 j rfl)); exact g_bs_n ex1 (by omega) (by omega) (decide_eq_false (by omega)) (g_or0 hz15)) (by omega))
      · refine h_iconst (pc' := 52) (x := (Int32.ofInt 1)) rfl rfl rfl ?_
        refine h_iload_n (pc' := 53) rfl rfl rfl ?_
        refine h_shl1 (pc' := 54) rfl rfl ci_1 hy2 (by omega) (by omega) (fun z17 hz17 vz17 => ?_)
        refine h_goto (pc' := 58) rfl rfl ?_
        refine h_ior (pc' := 59) rfl rfl (fun z18 hz18 => ?_)
        refine h_istore_n (pc' := 60) (M := [(1, .int z18), (3, .int z4), (0, .ref 98), (2, .int y2)]) rfl rfl rfl rfl ?_
        refine h_iinc (pc' := 63) (M := fun z19 => [(2, .int z19), (1, .int z18), (3, .int z4), (0, .ref 98)]) rfl rfl rfl rfl hy2 ci_1 rfl (by omega) (by omega) (fun _ => rfl) (fun z19 hz19 => ?_)
        refine h_goto (pc' := 9) rfl rfl ?_
        exact h_wk [(0, .ref 98), (1, .int z18), (2, .int z19)] ⟨rfl, rfl, rfl, trivial⟩ (ih _ I0 F0_ z18 _ rfl z19 _ hz19 (by omega) ex0 (by have k1 := g_wm ps9_0 ps7_0 (F0_ 98 1 rfl) (funext (fun j => F0_ 99 j rfl)); have k0 := g_wm ps13_0 ps11_0 (F0_ 98 1 rfl) (funext (fun j => F0_ 99 j rfl)); exact g_bs_y ex1 (by omega) (by omega) (decide_eq_true (by omega)) (g_or_of hz18 hz17 hy2)) (by omega))
set_option maxHeartbeats 100000000 in
set_option maxHeartbeats 100000000 in
theorem n_widM {ns : Nat} (σ : h_S) (hI : h_I σ) {Q : Option Value → h_S → Prop} (kk : ∀ (r : Int32) (b : Int) (hb : r.toInt = b) (τ : h_S), h_I τ → h_F (k_in kf_n_widM) τ σ → (g_DM (σ 98 1) (σ 99 18) (σ 99) (σ 100) (τ 105)) → (r = g_bs (σ 98 2) (fun g => decide (g_bn8 (g_bs (σ 98 1) (fun p => g_yM (τ 105) (fun i => σ 99 (19 + 2 * i)) (fun i => σ 99 (19 + 2 * i + 1)) (σ 99 25) p (g_orn (σ 99 (29 + g))) (σ 99 (26 + g))) 6 0 0) 8 < g_bn8 (g_bs (σ 98 1) (fun p => g_yM (τ 105) (fun i => σ 99 (19 + 2 * i)) (fun i => σ 99 (19 + 2 * i + 1)) (σ 99 25) p (g_orn (σ 99 (29 + g))) (σ 99 (26 + g) + 1)) 6 0 0) 8)) 3 0 0) → Q (some (.int r)) τ) : h_T g_P (g_Y ns) 203 0 [(0, .ref 98)] [] σ Q := by
  have F00 : h_F (k_in kf_n_widM) σ σ := h_F.rf
  refine h_aload_n (pc' := 1) rfl rfl rfl ?_
  refine h_iconst (pc' := 2) (x := (Int32.ofInt 0)) rfl rfl rfl ?_
  refine h_call (sp := false) (pc' := 5) (M := [(0, .ref 98), (1, .int (Int32.ofInt 0))]) rfl rfl rfl rfl rfl rfl rfl rfl ?_
  refine n_lays _ hI  (fun s2 Is2 Gs2 ps2_0 => h_Kn ?_)
  have Fs2 := (Gs2.mono (B := kf_n_widM) rfl).tr F00
  have es2_0 : s2 98 13 = σ 98 13 := (Gs2 98 13 rfl).trans rfl
  refine h_iconst (pc' := 6) (x := (Int32.ofInt 0)) rfl rfl rfl ?_
  refine h_istore_n (pc' := 7) (M := [(1, .int (Int32.ofInt 0)), (0, .ref 98)]) rfl rfl rfl rfl ?_
  refine h_iconst (pc' := 8) (x := (Int32.ofInt 0)) rfl rfl rfl ?_
  refine h_istore_n (pc' := 9) (M := [(2, .int (Int32.ofInt 0)), (1, .int (Int32.ofInt 0)), (0, .ref 98)]) rfl rfl rfl rfl ?_
  exact h_wk [(0, .ref 98), (1, .int (Int32.ofInt 0)), (2, .int (Int32.ofInt 0))] ⟨rfl, rfl, rfl, trivial⟩ ((n_widM_l ns σ hI  kk 1000000000000) _ Is2 Fs2 (Int32.ofInt 0) _ ci_0 (Int32.ofInt 0) _ ci_0 (by omega) ps2_0 rfl (by omega))
