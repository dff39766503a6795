/-! READING, THE REFERENCE'S WAY -/
def g_mz (l n : Int) : Int := if l = -4 then -4 else n
theorem g_mz_v {l n : Int} : (l = -4 ∧ g_mz l n = -4) ∨ (¬ l = -4 ∧ g_mz l n = n) := by
  unfold g_mz
  by_cases c : l = -4
  · rw [if_pos c]
    exact Or.inl ⟨c, rfl⟩
  · rw [if_neg c]
    exact Or.inr ⟨c, rfl⟩
theorem g_all_s {k : Int} {p : Int → Prop} (h : ∀ i, 0 ≤ i → i < k → p i) (hk : p k) : ∀ i, 0 ≤ i → i < k + 1 → p i := fun i a b => by
  by_cases c : i = k
  · rw [c]
    exact hk
  · exact h i a (by omega)
def g_rp (S0 S : Int → Int) : Prop := (∀ j, 0 ≤ j → j < 176 → S0 j = S j) ∧ (∀ j, 0 ≤ j → j < 44 → S0 (176 + j) = S j)
theorem g_gM_mk {n n' m : Int} {t t' S S1 S1' S2 G : Int → Int} {p p' g g' : Int} (hD : g_DM n' m S1 t' G) (hm : m = S1 18) (e1 : n' = n) (e2 : t' = t) (e3 : S1 = S) (hp : p = p') (hg : g = g') (e5 : S1' = S1) {b : Int} (h : (b = 1 ∧ g_yM G (fun i => S1' (19 + 2 * i)) (fun i => S1' (19 + 2 * i + 1)) (S1' 25) p (g_orn (S1' (29 + g))) (S1' (26 + g)) = true ∧ S2 = g_set (g_set S1' (29 + g) (p + 1)) (32 + g) (g_w1n (S1' (32 + g)))) ∨ (b = 0 ∧ g_yM G (fun i => S1' (19 + 2 * i)) (fun i => S1' (19 + 2 * i + 1)) (S1' 25) p (g_orn (S1' (29 + g))) (S1' (26 + g)) = false ∧ S2 = S1')) : g_gM n t S S2 p' g' := by
  subst e1; subst e2; subst e5; subst e3; subst hp; subst hg; subst hm
  refine ⟨G, hD, ?_⟩
  rcases h with q | q
  · exact Or.inl q.2
  · exact Or.inr q.2
def kf_n_readM : List Nat := [100388, 101888, 101892, 108543]
set_option maxHeartbeats 100000000 in
set_option maxHeartbeats 100000000 in
theorem n_readM_l (ns : Nat) (σ : h_S) (hI : h_I σ) (x0 : Int32) (a0 : Int) (hx0 : x0.toInt = a0) (x1 : Int32) (a1 : Int) (hx1 : x1.toInt = a1) (x2 : Int32) (a2 : Int) (hx2 : x2.toInt = a2) (x3 : Int32) (a3 : Int) (hx3 : x3.toInt = a3) {Q : Option Value → h_S → Prop} (kk : ∀ (r : Int32) (b : Int) (hb : r.toInt = b) (τ : h_S), h_I τ → h_F (k_in kf_n_readM) τ σ → ((-60) ≤ b ∧ b ≤ 40) → (((¬ (0 ≤ a0 ∧ a0 ≤ 3 ∧ 0 ≤ a1 ∧ a1 ≤ 2 ∧ 0 ≤ a3 ∧ a3 ≤ 20)) ∧ b = -1 ∧ τ 99 = σ 99 ∧ τ 98 36 = σ 98 36) ∨ ((0 ≤ a0 ∧ a0 ≤ 3 ∧ 0 ≤ a1 ∧ a1 ≤ 2 ∧ 0 ≤ a3 ∧ a3 ≤ 20) ∧ ∃ w f S0, (w, f) = g_rd (fun i => g_fz (g_mz (σ 111 a0) (σ 112 a0)) (σ 111 a0) a1 (a2 + 2 * i)) (fun i => g_ok (σ 98 1) (σ 98 2) (σ 113 (40 * a0 + (a2 + 2 * i))) (σ 113 (40 * a0 + (a2 + 2 * i + 1)))) a3.toNat 0 ∧ b = w ∧ g_rp S0 (σ 99) ∧ ((w < 0 ∧ (∀ j, 0 ≤ j → j < 44 → τ 99 j = σ 99 j) ∧ τ 98 36 = σ 98 36) ∨ (0 ≤ w ∧ τ 98 36 = f ∧ g_hf (σ 98 1) (σ 100) (fun i => σ 113 (40 * a0 + (a2 + 2 * i))) (fun i => σ 113 (40 * a0 + (a2 + 2 * i + 1))) S0 w.toNat (τ 99))))) → Q (some (.int r)) τ) : ∀ n : Nat, (∀ (s0 : h_S), h_I s0 → h_F (k_in kf_n_readM) s0 σ → ∀ (y5 : Int32) (b5 : Int), y5.toInt = b5 → (0 ≤ b5 ∧ b5 ≤ 3) → ∀ (y6 : Int32) (b6 : Int), y6.toInt = b6 → (0 ≤ b6 ∧ b6 ≤ 41) → ∀ (y7 : Int32) (b7 : Int), y7.toInt = b7 → (0 ≤ b7 ∧ b7 ≤ 40) → (0 ≤ a0 ∧ a0 ≤ 3 ∧ 0 ≤ a1 ∧ a1 ≤ 2 ∧ 0 ≤ a3 ∧ a3 ≤ 20) → ((b5 = 0 ∧ (b7 = 2 * b6 ∨ (b7 = 2 * b6 + 1 ∧ ¬ σ 111 a0 = -4 ∧ σ 111 a0 = a1 ∧ 0 ≤ a2 + 2 * b6 ∧ a2 + 2 * b6 < σ 112 a0)) ∧ g_rd (fun i => g_fz (g_mz (σ 111 a0) (σ 112 a0)) (σ 111 a0) a1 (a2 + 2 * i)) (fun i => g_ok (σ 98 1) (σ 98 2) (σ 113 (40 * a0 + (a2 + 2 * i))) (σ 113 (40 * a0 + (a2 + 2 * i + 1)))) (a3 - b6).toNat b6 = g_rd (fun i => g_fz (g_mz (σ 111 a0) (σ 112 a0)) (σ 111 a0) a1 (a2 + 2 * i)) (fun i => g_ok (σ 98 1) (σ 98 2) (σ 113 (40 * a0 + (a2 + 2 * i))) (σ 113 (40 * a0 + (a2 + 2 * i + 1)))) a3.toNat 0) ∨ (¬ b5 = 0 ∧ (b6, b5) = g_rd (fun i => g_fz (g_mz (σ 111 a0) (σ 112 a0)) (σ 111 a0) a1 (a2 + 2 * i)) (fun i => g_ok (σ 98 1) (σ 98 2) (σ 113 (40 * a0 + (a2 + 2 * i))) (σ 113 (40 * a0 + (a2 + 2 * i + 1)))) a3.toNat 0)) → (∃ S0, g_rp S0 (σ 99) ∧ g_hf (σ 98 1) (σ 100) (fun i => σ 113 (40 * a0 + (a2 + 2 * i))) (fun i => σ 113 (40 * a0 + (a2 + 2 * i + 1))) S0 b6.toNat (s0 99)) → (s0 98 36 = σ 98 36) → ((1 ≤ b7 ∧ b5 = 0) → 0 ≤ a2 + (b7 - 1)) → (b6 ≤ a3) → (∀ i, 0 ≤ i → i < b6 → g_ok (σ 98 1) (σ 98 2) (σ 113 (40 * a0 + (a2 + 2 * i))) (σ 113 (40 * a0 + (a2 + 2 * i + 1))) = true) → (40 + 1 - b7) * 1000000 + 1000000000 ≤ (n : Int) → h_T g_P (g_Y ns) 222 56 [(0, .ref 98), (1, .int x0), (2, .int x1), (3, .int x2), (4, .int x3), (5, .int y5), (6, .int y6), (7, .int y7)] [] s0 Q) := by
  intro n
  induction n with
  | zero => exact by intro s0 I0 F0_ y5 b5 hy5 ry5 y6 b6 hy6 ry6 y7 b7 hy7 ry7 ex0 ex1 ex2 ex3 ex4 ex5 ex6 hm; have gg0 := h_rgv hx2; have gh0 := F0_ 98 1 rfl; have gh1 := F0_ 98 2 rfl; have gh2 := ty_112 hI a0; have gh3 := tf_98_2 hI; exfalso; omega
  | succ n ih =>
    intro s0 I0 F0_ y5 b5 hy5 ry5 y6 b6 hy6 ry6 y7 b7 hy7 ry7 ex0 ex1 ex2 ex3 ex4 ex5 ex6 hm; have gg0 := h_rgv hx2; have gh0 := F0_ 98 1 rfl; have gh1 := F0_ 98 2 rfl; have gh2 := ty_112 hI a0; have gh3 := tf_98_2 hI
    refine h_iload (pc' := 58) rfl rfl rfl ?_
    refine h_iconst (pc' := 59) (x := (Int32.ofInt 2)) rfl rfl rfl ?_
    refine h_iload (pc' := 61) rfl rfl rfl ?_
    refine h_imul (pc' := 62) rfl rfl ci_2 hx3 rfl (by have g0 := h_rgv hx3; omega) (by have g0 := h_rgv hx3; omega) (fun z1 hz1 => ?_)
    refine h_cge (tg := 198) (pc' := 65) rfl rfl rfl hy7 hz1 (fun c2 => ?_) (fun c2 => ?_)
    · refine h_aload_n (pc' := 199) rfl rfl rfl ?_
      refine h_iload (pc' := 201) rfl rfl rfl ?_
      refine h_put (pc' := 204) rfl rfl rfl rfl rfl rfl hy5 rfl (h_fgt (E := fun s => s 98 36 = b5 ∧ s = h_up s0 98 36 b5) _ (if_98_36 I0 (h_rgv hy5)) (F0_.up rfl) ⟨rfl, rfl⟩ (fun s3 Is3 Fs3 (es3 : s3 98 36 = b5 ∧ s3 = h_up s0 98 36 b5) => ?_))
      have us3 := es3.2
      refine h_iload (pc' := 206) rfl rfl rfl ?_
      exact h_iret rfl rfl (kk _ _ hy6 _ Is3 Fs3 (by omega) (by obtain ⟨S0, z1, z2⟩ := ex2; exact Or.inr ⟨ex0, b6, b5, S0, (show (b6, b5) = g_rd (fun i => g_fz (g_mz (σ 111 a0) (σ 112 a0)) (σ 111 a0) a1 (a2 + 2 * i)) (fun i => g_ok (σ 98 1) (σ 98 2) (σ 113 (40 * a0 + (a2 + 2 * i))) (σ 113 (40 * a0 + (a2 + 2 * i + 1)))) a3.toNat 0 by rcases ex1 with q | q; (rw [q.1]; exact g_rd_0 q.2.2 (by omega)); exact q.2), rfl, z1, Or.inr ⟨by omega, h_upv us3, by rw [h_upg us3 rfl]; exact z2⟩⟩))
    · refine h_iload (pc' := 67) rfl rfl rfl ?_
      refine h_zne (tg := 198) (pc' := 70) rfl rfl rfl hy5 (fun c4 => ?_) (fun c4 => ?_)
      · refine h_aload_n (pc' := 199) rfl rfl rfl ?_
        refine h_iload (pc' := 201) rfl rfl rfl ?_
        refine h_put (pc' := 204) rfl rfl rfl rfl rfl rfl hy5 rfl (h_fgt (E := fun s => s 98 36 = b5 ∧ s = h_up s0 98 36 b5) _ (if_98_36 I0 (h_rgv hy5)) (F0_.up rfl) ⟨rfl, rfl⟩ (fun s5 Is5 Fs5 (es5 : s5 98 36 = b5 ∧ s5 = h_up s0 98 36 b5) => ?_))
        have us5 := es5.2
        refine h_iload (pc' := 206) rfl rfl rfl ?_
        exact h_iret rfl rfl (kk _ _ hy6 _ Is5 Fs5 (by omega) (by obtain ⟨S0, z1, z2⟩ := ex2; exact Or.inr ⟨ex0, b6, b5, S0, (show (b6, b5) = g_rd (fun i => g_fz (g_mz (σ 111 a0) (σ 112 a0)) (σ 111 a0) a1 (a2 + 2 * i)) (fun i => g_ok (σ 98 1) (σ 98 2) (σ 113 (40 * a0 + (a2 + 2 * i))) (σ 113 (40 * a0 + (a2 + 2 * i + 1)))) a3.toNat 0 by rcases ex1 with q | q; (rw [q.1]; exact g_rd_0 q.2.2 (by omega)); exact q.2), rfl, z1, Or.inr ⟨by omega, h_upv us5, by rw [h_upg us5 rfl]; exact z2⟩⟩))
      · refine h_aload_n (pc' := 71) rfl rfl rfl ?_
        refine h_getR (pc' := 74) rfl rfl rfl rfl rfl ?_
        refine h_iload_n (pc' := 75) rfl rfl rfl ?_
        refine h_iald (pc' := 76) (v := σ 111 a0) rfl rfl rfl hx0 (by omega) (by omega) (F0_ 111 _ rfl) (fun z6 hz6 => ?_)
        have tz6 := ty_111 hI a0
        refine h_bipush (pc' := 78) (x := (Int32.ofInt (-4))) rfl rfl cb_m4 ?_
        refine h_cne (tg := 85) (pc' := 81) rfl rfl rfl hz6 ci_m4 (fun c7 => ?_) (fun c7 => ?_)
        · refine h_aload_n (pc' := 86) rfl rfl rfl ?_
          refine h_getR (pc' := 89) rfl rfl rfl rfl rfl ?_
          refine h_iload_n (pc' := 90) rfl rfl rfl ?_
          refine h_iald (pc' := 91) (v := σ 111 a0) rfl rfl rfl hx0 (by omega) (by omega) (F0_ 111 _ rfl) (fun z8 hz8 => ?_)
          have tz8 := ty_111 hI a0
          refine h_iload_n (pc' := 92) rfl rfl rfl ?_
          refine h_ceq (tg := 99) (pc' := 95) rfl rfl rfl hz8 hx1 (fun c9 => ?_) (fun c9 => ?_)
          · refine h_iload_n (pc' := 100) rfl rfl rfl ?_
            refine h_i2l (pc' := 101) rfl rfl hx2 (fun z10 hz10 => ?_)
            refine h_iload (pc' := 103) rfl rfl rfl ?_
            refine h_i2l (pc' := 104) rfl rfl hy7 (fun z11 hz11 => ?_)
            refine h_ladd (pc' := 105) rfl rfl hz10 hz11 rfl (by omega) (by omega) (fun z12 hz12 => ?_)
            refine h_lconst (pc' := 106) (x := (Int64.ofInt 0)) rfl rfl rfl ?_
            refine h_aload_n (pc' := 107) rfl rfl rfl ?_
            refine h_getR (pc' := 110) rfl rfl rfl rfl rfl ?_
            refine h_iload_n (pc' := 111) rfl rfl rfl ?_
            refine h_iald (pc' := 112) (v := σ 112 a0) rfl rfl rfl hx0 (by omega) (by omega) (F0_ 112 _ rfl) (fun z13 hz13 => ?_)
            have tz13 := ty_112 hI a0
            refine h_iconst (pc' := 113) (x := (Int32.ofInt 1)) rfl rfl rfl ?_
            refine h_isub (pc' := 114) rfl rfl hz13 ci_1 rfl (by omega) (by omega) (fun z14 hz14 => ?_)
            refine h_i2l (pc' := 115) rfl rfl hz14 (fun z15 hz15 => ?_)
            refine h_calls (pc' := 118) (M := [(0, .long z12), (2, .long (Int64.ofInt 0)), (4, .long z15)]) rfl rfl rfl rfl rfl rfl ?_
            refine h_lload_n (pc' := 1) rfl rfl rfl ?_
            refine h_lload_n (pc' := 2) rfl rfl rfl ?_
            refine h_lcmp (pc' := 3) rfl rfl hz12 cl_0 (fun z16 hz16 => ?_)
            refine h_zlt (tg := 17) (pc' := 6) rfl rfl rfl rfl (fun c17 => ?_) (fun c17 => ?_)
            · replace c17 := (h_lcr hz16).1 c17
              clear hz16
              refine h_iconst (pc' := 18) (x := (Int32.ofInt 0)) rfl rfl rfl ?_
              refine h_zret rfl rfl ci_0 (by omega) (h_Kv ?_)
              refine h_zne (tg := 125) (pc' := 121) rfl rfl rfl ci_0 (fun c18 => absurd c18 (by omega)) (fun c18 => ?_)
              refine h_iconst (pc' := 122) (x := (Int32.ofInt 2)) rfl rfl rfl ?_
              refine h_goto (pc' := 126) rfl rfl ?_
              refine h_istore (pc' := 128) (M := [(5, .int (Int32.ofInt 2)), (0, .ref 98), (1, .int x0), (2, .int x1), (3, .int x2), (4, .int x3), (6, .int y6), (7, .int y7)]) rfl rfl rfl rfl ?_
              refine h_iload (pc' := 130) rfl rfl rfl ?_
              refine h_zne (tg := 192) (pc' := 133) rfl rfl rfl ci_2 (fun c19 => ?_) (fun c19 => absurd c19 (by omega))
              refine h_iinc (pc' := 195) (M := fun z20 => [(7, .int z20), (5, .int (Int32.ofInt 2)), (0, .ref 98), (1, .int x0), (2, .int x1), (3, .int x2), (4, .int x3), (6, .int y6)]) rfl rfl rfl rfl hy7 ci_1 rfl (by omega) (by omega) (fun _ => rfl) (fun z20 hz20 => ?_)
              refine h_goto (pc' := 56) rfl rfl ?_
              exact h_wk [(0, .ref 98), (1, .int x0), (2, .int x1), (3, .int x2), (4, .int x3), (5, .int (Int32.ofInt 2)), (6, .int y6), (7, .int z20)] ⟨rfl, rfl, rfl, rfl, rfl, rfl, rfl, rfl, trivial⟩ (ih _ I0 F0_ (Int32.ofInt 2) _ ci_2 (by omega) y6 _ hy6 (by omega) z20 _ hz20 (by omega) (by omega) (by have gz := g_mz_v (l := σ 111 a0) (n := σ 112 a0); have gv := g_fz_v (z := g_mz (σ 111 a0) (σ 112 a0)) (ln := σ 111 a0) (lane := a1) (e := a2 + 2 * b6); rcases ex1 with q | q; (first | (refine Or.inl ⟨by omega, ?_, q.2.2⟩; omega) | (refine Or.inr ⟨by omega, ?_⟩; exact g_rd_f (m' := (a3 - (b6 + 1)).toNat) q.2.2 (by omega) (by omega) (by omega))); (exfalso; omega)) ex2 (by omega) (by omega) (by omega) ex6 (by omega))
            · replace c17 := (h_lcr hz16).2.1 c17
              clear hz16
              refine h_lload_n (pc' := 7) rfl rfl rfl ?_
              refine h_lload (pc' := 9) rfl rfl rfl ?_
              refine h_lcmp (pc' := 10) rfl rfl hz12 hz15 (fun z21 hz21 => ?_)
              refine h_zgt (tg := 17) (pc' := 13) rfl rfl rfl rfl (fun c22 => ?_) (fun c22 => ?_)
              · replace c22 := (h_lcr hz21).2.2.2.1 c22
                clear hz21
                refine h_iconst (pc' := 18) (x := (Int32.ofInt 0)) rfl rfl rfl ?_
                refine h_zret rfl rfl ci_0 (by omega) (h_Kv ?_)
                refine h_zne (tg := 125) (pc' := 121) rfl rfl rfl ci_0 (fun c23 => absurd c23 (by omega)) (fun c23 => ?_)
                refine h_iconst (pc' := 122) (x := (Int32.ofInt 2)) rfl rfl rfl ?_
                refine h_goto (pc' := 126) rfl rfl ?_
                refine h_istore (pc' := 128) (M := [(5, .int (Int32.ofInt 2)), (0, .ref 98), (1, .int x0), (2, .int x1), (3, .int x2), (4, .int x3), (6, .int y6), (7, .int y7)]) rfl rfl rfl rfl ?_
                refine h_iload (pc' := 130) rfl rfl rfl ?_
                refine h_zne (tg := 192) (pc' := 133) rfl rfl rfl ci_2 (fun c24 => ?_) (fun c24 => absurd c24 (by omega))
                refine h_iinc (pc' := 195) (M := fun z25 => [(7, .int z25), (5, .int (Int32.ofInt 2)), (0, .ref 98), (1, .int x0), (2, .int x1), (3, .int x2), (4, .int x3), (6, .int y6)]) rfl rfl rfl rfl hy7 ci_1 rfl (by omega) (by omega) (fun _ => rfl) (fun z25 hz25 => ?_)
                refine h_goto (pc' := 56) rfl rfl ?_
                exact h_wk [(0, .ref 98), (1, .int x0), (2, .int x1), (3, .int x2), (4, .int x3), (5, .int (Int32.ofInt 2)), (6, .int y6), (7, .int z25)] ⟨rfl, rfl, rfl, rfl, rfl, rfl, rfl, rfl, trivial⟩ (ih _ I0 F0_ (Int32.ofInt 2) _ ci_2 (by omega) y6 _ hy6 (by omega) z25 _ hz25 (by omega) (by omega) (by have gz := g_mz_v (l := σ 111 a0) (n := σ 112 a0); have gv := g_fz_v (z := g_mz (σ 111 a0) (σ 112 a0)) (ln := σ 111 a0) (lane := a1) (e := a2 + 2 * b6); rcases ex1 with q | q; (first | (refine Or.inl ⟨by omega, ?_, q.2.2⟩; omega) | (refine Or.inr ⟨by omega, ?_⟩; exact g_rd_f (m' := (a3 - (b6 + 1)).toNat) q.2.2 (by omega) (by omega) (by omega))); (exfalso; omega)) ex2 (by omega) (by omega) (by omega) ex6 (by omega))
              · replace c22 := (h_lcr hz21).2.2.1 c22
                clear hz21
                refine h_iconst (pc' := 14) (x := (Int32.ofInt 1)) rfl rfl rfl ?_
                refine h_goto (pc' := 18) rfl rfl ?_
                refine h_zret rfl rfl ci_1 (by omega) (h_Kv ?_)
                refine h_zne (tg := 125) (pc' := 121) rfl rfl rfl ci_1 (fun c26 => ?_) (fun c26 => absurd c26 (by omega))
                refine h_iconst (pc' := 126) (x := (Int32.ofInt 0)) rfl rfl rfl ?_
                refine h_istore (pc' := 128) (M := [(5, .int (Int32.ofInt 0)), (0, .ref 98), (1, .int x0), (2, .int x1), (3, .int x2), (4, .int x3), (6, .int y6), (7, .int y7)]) rfl rfl rfl rfl ?_
                refine h_iload (pc' := 130) rfl rfl rfl ?_
                refine h_zne (tg := 192) (pc' := 133) rfl rfl rfl ci_0 (fun c27 => absurd c27 (by omega)) (fun c27 => ?_)
                refine h_iload (pc' := 135) rfl rfl rfl ?_
                refine h_iconst (pc' := 136) (x := (Int32.ofInt 2)) rfl rfl rfl ?_
                refine h_irem (pc' := 137) rfl rfl hy7 ci_2 (by omega) (by omega) (fun z28 hz28 => ?_)
                refine h_iconst (pc' := 138) (x := (Int32.ofInt 1)) rfl rfl rfl ?_
                refine h_cne (tg := 192) (pc' := 141) rfl rfl rfl hz28 ci_1 (fun c29 => ?_) (fun c29 => ?_)
                · refine h_iinc (pc' := 195) (M := fun z30 => [(7, .int z30), (5, .int (Int32.ofInt 0)), (0, .ref 98), (1, .int x0), (2, .int x1), (3, .int x2), (4, .int x3), (6, .int y6)]) rfl rfl rfl rfl hy7 ci_1 rfl (by omega) (by omega) (fun _ => rfl) (fun z30 hz30 => ?_)
                  refine h_goto (pc' := 56) rfl rfl ?_
                  exact h_wk [(0, .ref 98), (1, .int x0), (2, .int x1), (3, .int x2), (4, .int x3), (5, .int (Int32.ofInt 0)), (6, .int y6), (7, .int z30)] ⟨rfl, rfl, rfl, rfl, rfl, rfl, rfl, rfl, trivial⟩ (ih _ I0 F0_ (Int32.ofInt 0) _ ci_0 (by omega) y6 _ hy6 (by omega) z30 _ hz30 (by omega) (by omega) (by have gz := g_mz_v (l := σ 111 a0) (n := σ 112 a0); have gv := g_fz_v (z := g_mz (σ 111 a0) (σ 112 a0)) (ln := σ 111 a0) (lane := a1) (e := a2 + 2 * b6); rcases ex1 with q | q; (first | (refine Or.inl ⟨by omega, ?_, q.2.2⟩; omega) | (refine Or.inr ⟨by omega, ?_⟩; exact g_rd_f (m' := (a3 - (b6 + 1)).toNat) q.2.2 (by omega) (by omega) (by omega))); (exfalso; omega)) ex2 (by omega) (by omega) (by omega) ex6 (by omega))
                · refine h_bipush (pc' := 143) (x := (Int32.ofInt 40)) rfl rfl cb_40 ?_
                  refine h_iload_n (pc' := 144) rfl rfl rfl ?_
                  refine h_imul (pc' := 145) rfl rfl ci_40 hx0 rfl (by have g0 := h_rgv hx0; omega) (by have g0 := h_rgv hx0; omega) (fun z31 hz31 => ?_)
                  refine h_iload_n (pc' := 146) rfl rfl rfl ?_
                  refine h_iadd (pc' := 147) rfl rfl hz31 hx2 rfl (by have g0 := h_rgv hx2; omega) (by have g0 := h_rgv hx2; omega) (fun z32 hz32 => ?_)
                  refine h_iload (pc' := 149) rfl rfl rfl ?_
                  refine h_iadd (pc' := 150) rfl rfl hz32 hy7 rfl (by have g0 := h_rgv hz32; omega) (by have g0 := h_rgv hz32; omega) (fun z33 hz33 => ?_)
                  refine h_istore (pc' := 152) (M := [(8, .int z33), (5, .int (Int32.ofInt 0)), (0, .ref 98), (1, .int x0), (2, .int x1), (3, .int x2), (4, .int x3), (6, .int y6), (7, .int y7)]) rfl rfl rfl rfl ?_
                  refine h_aload_n (pc' := 153) rfl rfl rfl ?_
                  refine h_aload_n (pc' := 154) rfl rfl rfl ?_
                  refine h_getR (pc' := 157) rfl rfl rfl rfl rfl ?_
                  refine h_iload (pc' := 159) rfl rfl rfl ?_
                  refine h_iconst (pc' := 160) (x := (Int32.ofInt 1)) rfl rfl rfl ?_
                  refine h_isub (pc' := 161) rfl rfl hz33 ci_1 rfl (by have g0 := h_rgv hz33; omega) (by have g0 := h_rgv hz33; omega) (fun z34 hz34 => ?_)
                  refine h_iald (pc' := 162) (v := σ 113 ((((40 * a0) + a2) + b7) - 1)) rfl rfl rfl hz34 (by omega) (by omega) (F0_ 113 _ rfl) (fun z35 hz35 => ?_)
                  have tz35 := ty_113 hI ((((40 * a0) + a2) + b7) - 1)
                  refine h_aload_n (pc' := 163) rfl rfl rfl ?_
                  refine h_getR (pc' := 166) rfl rfl rfl rfl rfl ?_
                  refine h_iload (pc' := 168) rfl rfl rfl ?_
                  refine h_iald (pc' := 169) (v := σ 113 (((40 * a0) + a2) + b7)) rfl rfl rfl hz33 (by omega) (by omega) (F0_ 113 _ rfl) (fun z36 hz36 => ?_)
                  have tz36 := ty_113 hI (((40 * a0) + a2) + b7)
                  refine h_call (sp := false) (pc' := 172) (M := [(0, .ref 98), (1, .int z35), (2, .int z36)]) rfl rfl rfl rfl rfl rfl rfl rfl ?_
                  refine h_aload_n (pc' := 1) rfl rfl rfl ?_
                  refine h_iload_n (pc' := 2) rfl rfl rfl ?_
                  refine h_call (sp := false) (pc' := 5) (M := [(0, .ref 98), (1, .int z35)]) rfl rfl rfl rfl rfl rfl rfl rfl ?_
                  refine h_iload_n (pc' := 1) rfl rfl rfl ?_
                  refine h_i2l (pc' := 2) rfl rfl hz35 (fun z37 hz37 => ?_)
                  refine h_lconst (pc' := 3) (x := (Int64.ofInt 0)) rfl rfl rfl ?_
                  refine h_aload_n (pc' := 4) rfl rfl rfl ?_
                  refine h_getI (pc' := 7) (v := σ 98 1) rfl rfl rfl rfl rfl (F0_ 98 1 rfl) (fun z38 hz38 => ?_)
                  have tz38 := tf_98_1 hI
                  refine h_iconst (pc' := 8) (x := (Int32.ofInt 1)) rfl rfl rfl ?_
                  refine h_isub (pc' := 9) rfl rfl hz38 ci_1 rfl (by omega) (by omega) (fun z39 hz39 => ?_)
                  refine h_i2l (pc' := 10) rfl rfl hz39 (fun z40 hz40 => ?_)
                  refine h_calls (pc' := 13) (M := [(0, .long z37), (2, .long (Int64.ofInt 0)), (4, .long z40)]) rfl rfl rfl rfl rfl rfl ?_
                  refine h_lload_n (pc' := 1) rfl rfl rfl ?_
                  refine h_lload_n (pc' := 2) rfl rfl rfl ?_
                  refine h_lcmp (pc' := 3) rfl rfl hz37 cl_0 (fun z41 hz41 => ?_)
                  refine h_zlt (tg := 17) (pc' := 6) rfl rfl rfl rfl (fun c42 => ?_) (fun c42 => ?_)
                  · replace c42 := (h_lcr hz41).1 c42
                    clear hz41
                    refine h_iconst (pc' := 18) (x := (Int32.ofInt 0)) rfl rfl rfl ?_
                    refine h_zret rfl rfl ci_0 (by omega) (h_Kv ?_)
                    refine h_zret rfl rfl ci_0 (by omega) (h_Kv ?_)
                    refine h_zeq (tg := 16) (pc' := 8) rfl rfl rfl ci_0 (fun c43 => ?_) (fun c43 => absurd c43 (by omega))
                    refine h_iconst (pc' := 17) (x := (Int32.ofInt (-1))) rfl rfl rfl ?_
                    refine h_iret rfl rfl (h_Kv ?_)
                    refine h_zge (tg := 189) (pc' := 175) rfl rfl rfl ci_m1 (fun c44 => absurd c44 (by omega)) (fun c44 => ?_)
                    refine h_aload_n (pc' := 176) rfl rfl rfl ?_
                    refine h_sipush (pc' := 179) (x := (Int32.ofInt 176)) rfl rfl cs_176 ?_
                    refine h_iconst (pc' := 180) (x := (Int32.ofInt 0)) rfl rfl rfl ?_
                    refine h_call (sp := false) (pc' := 183) (M := [(0, .ref 98), (1, .int (Int32.ofInt 176)), (2, .int (Int32.ofInt 0))]) rfl rfl rfl rfl rfl rfl rfl rfl ?_
                    refine n_copies_176_0 _ I0   (fun s46 Is46 Gs46 ps46_0 => h_Kn ?_)
                    have Fs46 := (Gs46.mono (B := kf_n_readM) rfl).tr F0_
                    have es46_0 : s46 98 36 = s0 98 36 := (Gs46 98 36 rfl).trans rfl
                    refine h_bipush (pc' := 185) (x := (Int32.ofInt (-20))) rfl rfl cb_m20 ?_
                    refine h_iload (pc' := 187) rfl rfl rfl ?_
                    refine h_isub (pc' := 188) rfl rfl ci_m20 hy6 rfl (by omega) (by omega) (fun z47 hz47 => ?_)
                    exact h_iret rfl rfl (kk _ _ hz47 _ Is46 Fs46 (by omega) (by have gz := g_mz_v (l := σ 111 a0) (n := σ 112 a0); have gv := g_fz_v (z := g_mz (σ 111 a0) (σ 112 a0)) (ln := σ 111 a0) (lane := a1) (e := a2 + 2 * b6); have gp : σ 113 (40 * a0 + a2 + b7 - 1) = σ 113 (40 * a0 + (a2 + 2 * b6)) := congrArg (σ 113) (by omega); have gg : σ 113 (40 * a0 + a2 + b7) = σ 113 (40 * a0 + (a2 + 2 * b6 + 1)) := congrArg (σ 113) (by omega); obtain ⟨S0, z1, z2⟩ := ex2; have sm := g_hf_sm (ng := σ 98 2) (by omega) b6.toNat _ (fun i a b => by have gk := g_ok_e (ex6 i a (by omega)); omega) z2; rcases ex1 with q | q; exact Or.inr ⟨ex0, -20 - b6, 0, S0, g_rd_b (m' := (a3 - (b6 + 1)).toNat) q.2.2 (by omega) (by omega) (g_ok_n (by omega)), by omega, z1, Or.inl ⟨by omega, fun j a b => (congrArg (s46 99) (Int.zero_add j).symm).trans ((ps46_0 j a b).trans ((sm (176 + j) (by omega)).trans (z1.2 j a b))), by omega⟩⟩; (exfalso; omega)))
                  · replace c42 := (h_lcr hz41).2.1 c42
                    clear hz41
                    refine h_lload_n (pc' := 7) rfl rfl rfl ?_
                    refine h_lload (pc' := 9) rfl rfl rfl ?_
                    refine h_lcmp (pc' := 10) rfl rfl hz37 hz40 (fun z48 hz48 => ?_)
                    refine h_zgt (tg := 17) (pc' := 13) rfl rfl rfl rfl (fun c49 => ?_) (fun c49 => ?_)
                    · replace c49 := (h_lcr hz48).2.2.2.1 c49
                      clear hz48
                      refine h_iconst (pc' := 18) (x := (Int32.ofInt 0)) rfl rfl rfl ?_
                      refine h_zret rfl rfl ci_0 (by omega) (h_Kv ?_)
                      refine h_zret rfl rfl ci_0 (by omega) (h_Kv ?_)
                      refine h_zeq (tg := 16) (pc' := 8) rfl rfl rfl ci_0 (fun c50 => ?_) (fun c50 => absurd c50 (by omega))
                      refine h_iconst (pc' := 17) (x := (Int32.ofInt (-1))) rfl rfl rfl ?_
                      refine h_iret rfl rfl (h_Kv ?_)
                      refine h_zge (tg := 189) (pc' := 175) rfl rfl rfl ci_m1 (fun c51 => absurd c51 (by omega)) (fun c51 => ?_)
                      refine h_aload_n (pc' := 176) rfl rfl rfl ?_
                      refine h_sipush (pc' := 179) (x := (Int32.ofInt 176)) rfl rfl cs_176 ?_
                      refine h_iconst (pc' := 180) (x := (Int32.ofInt 0)) rfl rfl rfl ?_
                      refine h_call (sp := false) (pc' := 183) (M := [(0, .ref 98), (1, .int (Int32.ofInt 176)), (2, .int (Int32.ofInt 0))]) rfl rfl rfl rfl rfl rfl rfl rfl ?_
                      refine n_copies_176_0 _ I0   (fun s53 Is53 Gs53 ps53_0 => h_Kn ?_)
                      have Fs53 := (Gs53.mono (B := kf_n_readM) rfl).tr F0_
                      have es53_0 : s53 98 36 = s0 98 36 := (Gs53 98 36 rfl).trans rfl
                      refine h_bipush (pc' := 185) (x := (Int32.ofInt (-20))) rfl rfl cb_m20 ?_
                      refine h_iload (pc' := 187) rfl rfl rfl ?_
                      refine h_isub (pc' := 188) rfl rfl ci_m20 hy6 rfl (by omega) (by omega) (fun z54 hz54 => ?_)
                      exact h_iret rfl rfl (kk _ _ hz54 _ Is53 Fs53 (by omega) (by have gz := g_mz_v (l := σ 111 a0) (n := σ 112 a0); have gv := g_fz_v (z := g_mz (σ 111 a0) (σ 112 a0)) (ln := σ 111 a0) (lane := a1) (e := a2 + 2 * b6); have gp : σ 113 (40 * a0 + a2 + b7 - 1) = σ 113 (40 * a0 + (a2 + 2 * b6)) := congrArg (σ 113) (by omega); have gg : σ 113 (40 * a0 + a2 + b7) = σ 113 (40 * a0 + (a2 + 2 * b6 + 1)) := congrArg (σ 113) (by omega); obtain ⟨S0, z1, z2⟩ := ex2; have sm := g_hf_sm (ng := σ 98 2) (by omega) b6.toNat _ (fun i a b => by have gk := g_ok_e (ex6 i a (by omega)); omega) z2; rcases ex1 with q | q; exact Or.inr ⟨ex0, -20 - b6, 0, S0, g_rd_b (m' := (a3 - (b6 + 1)).toNat) q.2.2 (by omega) (by omega) (g_ok_n (by omega)), by omega, z1, Or.inl ⟨by omega, fun j a b => (congrArg (s53 99) (Int.zero_add j).symm).trans ((ps53_0 j a b).trans ((sm (176 + j) (by omega)).trans (z1.2 j a b))), by omega⟩⟩; (exfalso; omega)))
                    · replace c49 := (h_lcr hz48).2.2.1 c49
                      clear hz48
                      refine h_iconst (pc' := 14) (x := (Int32.ofInt 1)) rfl rfl rfl ?_
                      refine h_goto (pc' := 18) rfl rfl ?_
                      refine h_zret rfl rfl ci_1 (by omega) (h_Kv ?_)
                      refine h_zret rfl rfl ci_1 (by omega) (h_Kv ?_)
                      refine h_zeq (tg := 16) (pc' := 8) rfl rfl rfl ci_1 (fun c55 => absurd c55 (by omega)) (fun c55 => ?_)
                      refine h_aload_n (pc' := 9) rfl rfl rfl ?_
                      refine h_iload_n (pc' := 10) rfl rfl rfl ?_
                      refine h_call (sp := false) (pc' := 13) (M := [(0, .ref 98), (1, .int z36)]) rfl rfl rfl rfl rfl rfl rfl rfl ?_
                      refine h_iload_n (pc' := 1) rfl rfl rfl ?_
                      refine h_i2l (pc' := 2) rfl rfl hz36 (fun z56 hz56 => ?_)
                      refine h_lconst (pc' := 3) (x := (Int64.ofInt 0)) rfl rfl rfl ?_
                      refine h_aload_n (pc' := 4) rfl rfl rfl ?_
                      refine h_getI (pc' := 7) (v := σ 98 2) rfl rfl rfl rfl rfl (F0_ 98 2 rfl) (fun z57 hz57 => ?_)
                      have tz57 := tf_98_2 hI
                      refine h_iconst (pc' := 8) (x := (Int32.ofInt 1)) rfl rfl rfl ?_
                      refine h_isub (pc' := 9) rfl rfl hz57 ci_1 rfl (by omega) (by omega) (fun z58 hz58 => ?_)
                      refine h_i2l (pc' := 10) rfl rfl hz58 (fun z59 hz59 => ?_)
                      refine h_calls (pc' := 13) (M := [(0, .long z56), (2, .long (Int64.ofInt 0)), (4, .long z59)]) rfl rfl rfl rfl rfl rfl ?_
                      refine h_lload_n (pc' := 1) rfl rfl rfl ?_
                      refine h_lload_n (pc' := 2) rfl rfl rfl ?_
                      refine h_lcmp (pc' := 3) rfl rfl hz56 cl_0 (fun z60 hz60 => ?_)
                      refine h_zlt (tg := 17) (pc' := 6) rfl rfl rfl rfl (fun c61 => ?_) (fun c61 => ?_)
                      · replace c61 := (h_lcr hz60).1 c61
                        clear hz60
                        refine h_iconst (pc' := 18) (x := (Int32.ofInt 0)) rfl rfl rfl ?_
                        refine h_zret rfl rfl ci_0 (by omega) (h_Kv ?_)
                        refine h_zret rfl rfl ci_0 (by omega) (h_Kv ?_)
                        refine h_zne (tg := 18) (pc' := 16) rfl rfl rfl ci_0 (fun c62 => absurd c62 (by omega)) (fun c62 => ?_)
                        refine h_iconst (pc' := 17) (x := (Int32.ofInt (-1))) rfl rfl rfl ?_
                        refine h_iret rfl rfl (h_Kv ?_)
                        refine h_zge (tg := 189) (pc' := 175) rfl rfl rfl ci_m1 (fun c63 => absurd c63 (by omega)) (fun c63 => ?_)
                        refine h_aload_n (pc' := 176) rfl rfl rfl ?_
                        refine h_sipush (pc' := 179) (x := (Int32.ofInt 176)) rfl rfl cs_176 ?_
                        refine h_iconst (pc' := 180) (x := (Int32.ofInt 0)) rfl rfl rfl ?_
                        refine h_call (sp := false) (pc' := 183) (M := [(0, .ref 98), (1, .int (Int32.ofInt 176)), (2, .int (Int32.ofInt 0))]) rfl rfl rfl rfl rfl rfl rfl rfl ?_
                        refine n_copies_176_0 _ I0   (fun s65 Is65 Gs65 ps65_0 => h_Kn ?_)
                        have Fs65 := (Gs65.mono (B := kf_n_readM) rfl).tr F0_
                        have es65_0 : s65 98 36 = s0 98 36 := (Gs65 98 36 rfl).trans rfl
                        refine h_bipush (pc' := 185) (x := (Int32.ofInt (-20))) rfl rfl cb_m20 ?_
                        refine h_iload (pc' := 187) rfl rfl rfl ?_
                        refine h_isub (pc' := 188) rfl rfl ci_m20 hy6 rfl (by omega) (by omega) (fun z66 hz66 => ?_)
                        exact h_iret rfl rfl (kk _ _ hz66 _ Is65 Fs65 (by omega) (by have gz := g_mz_v (l := σ 111 a0) (n := σ 112 a0); have gv := g_fz_v (z := g_mz (σ 111 a0) (σ 112 a0)) (ln := σ 111 a0) (lane := a1) (e := a2 + 2 * b6); have gp : σ 113 (40 * a0 + a2 + b7 - 1) = σ 113 (40 * a0 + (a2 + 2 * b6)) := congrArg (σ 113) (by omega); have gg : σ 113 (40 * a0 + a2 + b7) = σ 113 (40 * a0 + (a2 + 2 * b6 + 1)) := congrArg (σ 113) (by omega); obtain ⟨S0, z1, z2⟩ := ex2; have sm := g_hf_sm (ng := σ 98 2) (by omega) b6.toNat _ (fun i a b => by have gk := g_ok_e (ex6 i a (by omega)); omega) z2; rcases ex1 with q | q; exact Or.inr ⟨ex0, -20 - b6, 0, S0, g_rd_b (m' := (a3 - (b6 + 1)).toNat) q.2.2 (by omega) (by omega) (g_ok_n (by omega)), by omega, z1, Or.inl ⟨by omega, fun j a b => (congrArg (s65 99) (Int.zero_add j).symm).trans ((ps65_0 j a b).trans ((sm (176 + j) (by omega)).trans (z1.2 j a b))), by omega⟩⟩; (exfalso; omega)))
                      · replace c61 := (h_lcr hz60).2.1 c61
                        clear hz60
                        refine h_lload_n (pc' := 7) rfl rfl rfl ?_
                        refine h_lload (pc' := 9) rfl rfl rfl ?_
                        refine h_lcmp (pc' := 10) rfl rfl hz56 hz59 (fun z67 hz67 => ?_)
                        refine h_zgt (tg := 17) (pc' := 13) rfl rfl rfl rfl (fun c68 => ?_) (fun c68 => ?_)
                        · replace c68 := (h_lcr hz67).2.2.2.1 c68
                          clear hz67
                          refine h_iconst (pc' := 18) (x := (Int32.ofInt 0)) rfl rfl rfl ?_
                          refine h_zret rfl rfl ci_0 (by omega) (h_Kv ?_)
                          refine h_zret rfl rfl ci_0 (by omega) (h_Kv ?_)
                          refine h_zne (tg := 18) (pc' := 16) rfl rfl rfl ci_0 (fun c69 => absurd c69 (by omega)) (fun c69 => ?_)
                          refine h_iconst (pc' := 17) (x := (Int32.ofInt (-1))) rfl rfl rfl ?_
                          refine h_iret rfl rfl (h_Kv ?_)
                          refine h_zge (tg := 189) (pc' := 175) rfl rfl rfl ci_m1 (fun c70 => absurd c70 (by omega)) (fun c70 => ?_)
                          refine h_aload_n (pc' := 176) rfl rfl rfl ?_
                          refine h_sipush (pc' := 179) (x := (Int32.ofInt 176)) rfl rfl cs_176 ?_
                          refine h_iconst (pc' := 180) (x := (Int32.ofInt 0)) rfl rfl rfl ?_
                          refine h_call (sp := false) (pc' := 183) (M := [(0, .ref 98), (1, .int (Int32.ofInt 176)), (2, .int (Int32.ofInt 0))]) rfl rfl rfl rfl rfl rfl rfl rfl ?_
                          refine n_copies_176_0 _ I0   (fun s72 Is72 Gs72 ps72_0 => h_Kn ?_)
                          have Fs72 := (Gs72.mono (B := kf_n_readM) rfl).tr F0_
                          have es72_0 : s72 98 36 = s0 98 36 := (Gs72 98 36 rfl).trans rfl
                          refine h_bipush (pc' := 185) (x := (Int32.ofInt (-20))) rfl rfl cb_m20 ?_
                          refine h_iload (pc' := 187) rfl rfl rfl ?_
                          refine h_isub (pc' := 188) rfl rfl ci_m20 hy6 rfl (by omega) (by omega) (fun z73 hz73 => ?_)
                          exact h_iret rfl rfl (kk _ _ hz73 _ Is72 Fs72 (by omega) (by have gz := g_mz_v (l := σ 111 a0) (n := σ 112 a0); have gv := g_fz_v (z := g_mz (σ 111 a0) (σ 112 a0)) (ln := σ 111 a0) (lane := a1) (e := a2 + 2 * b6); have gp : σ 113 (40 * a0 + a2 + b7 - 1) = σ 113 (40 * a0 + (a2 + 2 * b6)) := congrArg (σ 113) (by omega); have gg : σ 113 (40 * a0 + a2 + b7) = σ 113 (40 * a0 + (a2 + 2 * b6 + 1)) := congrArg (σ 113) (by omega); obtain ⟨S0, z1, z2⟩ := ex2; have sm := g_hf_sm (ng := σ 98 2) (by omega) b6.toNat _ (fun i a b => by have gk := g_ok_e (ex6 i a (by omega)); omega) z2; rcases ex1 with q | q; exact Or.inr ⟨ex0, -20 - b6, 0, S0, g_rd_b (m' := (a3 - (b6 + 1)).toNat) q.2.2 (by omega) (by omega) (g_ok_n (by omega)), by omega, z1, Or.inl ⟨by omega, fun j a b => (congrArg (s72 99) (Int.zero_add j).symm).trans ((ps72_0 j a b).trans ((sm (176 + j) (by omega)).trans (z1.2 j a b))), by omega⟩⟩; (exfalso; omega)))
                        · replace c68 := (h_lcr hz67).2.2.1 c68
                          clear hz67
                          refine h_iconst (pc' := 14) (x := (Int32.ofInt 1)) rfl rfl rfl ?_
                          refine h_goto (pc' := 18) rfl rfl ?_
                          refine h_zret rfl rfl ci_1 (by omega) (h_Kv ?_)
                          refine h_zret rfl rfl ci_1 (by omega) (h_Kv ?_)
                          refine h_zne (tg := 18) (pc' := 16) rfl rfl rfl ci_1 (fun c74 => ?_) (fun c74 => absurd c74 (by omega))
                          refine h_aload_n (pc' := 19) rfl rfl rfl ?_
                          refine h_iconst (pc' := 20) (x := (Int32.ofInt 0)) rfl rfl rfl ?_
                          refine h_call (sp := false) (pc' := 23) (M := [(0, .ref 98), (1, .int (Int32.ofInt 0))]) rfl rfl rfl rfl rfl rfl rfl rfl ?_
                          refine n_lays _ I0  (fun s76 Is76 Gs76 ps76_0 => h_Kn ?_)
                          have Fs76 := (Gs76.mono (B := kf_n_readM) rfl).tr F0_
                          have es76_0 : s76 98 36 = s0 98 36 := (Gs76 98 36 rfl).trans rfl
                          refine h_aload_n (pc' := 24) rfl rfl rfl ?_
                          refine h_iconst (pc' := 25) (x := (Int32.ofInt 0)) rfl rfl rfl ?_
                          refine h_iload_n (pc' := 26) rfl rfl rfl ?_
                          refine h_iload_n (pc' := 27) rfl rfl rfl ?_
                          refine h_call (sp := false) (pc' := 30) (M := [(0, .ref 98), (1, .int (Int32.ofInt 0)), (2, .int z35), (3, .int z36)]) rfl rfl rfl rfl rfl rfl rfl rfl ?_
                          refine n_goesOn0 _ Is76  z35 _ hz35 (by omega) z36 _ hz36 (by omega) (fun r77 br77 hr77 s78 Is78 Gs78 tr77 ps78_0 => h_Kv ?_)
                          have Fs78 := (Gs78.mono (B := kf_n_readM) rfl).tr Fs76
                          have es78_0 : s78 98 36 = s0 98 36 := (Gs78 98 36 rfl).trans es76_0
                          refine h_zeq (tg := 37) (pc' := 33) rfl rfl rfl hr77 (fun c79 => ?_) (fun c79 => ?_)
                          · refine h_iconst (pc' := 38) (x := (Int32.ofInt 0)) rfl rfl rfl ?_
                            refine h_iret rfl rfl (h_Kv ?_)
                            refine h_zge (tg := 189) (pc' := 175) rfl rfl rfl ci_0 (fun c80 => ?_) (fun c80 => absurd c80 (by omega))
                            refine h_iinc (pc' := 192) (M := fun z81 => [(6, .int z81), (8, .int z33), (5, .int (Int32.ofInt 0)), (0, .ref 98), (1, .int x0), (2, .int x1), (3, .int x2), (4, .int x3), (7, .int y7)]) rfl rfl rfl rfl hy6 ci_1 rfl (by omega) (by omega) (fun _ => rfl) (fun z81 hz81 => ?_)
                            refine h_iinc (pc' := 195) (M := fun z82 => [(7, .int z82), (6, .int z81), (8, .int z33), (5, .int (Int32.ofInt 0)), (0, .ref 98), (1, .int x0), (2, .int x1), (3, .int x2), (4, .int x3)]) rfl rfl rfl rfl hy7 ci_1 rfl (by omega) (by omega) (fun _ => rfl) (fun z82 hz82 => ?_)
                            refine h_goto (pc' := 56) rfl rfl ?_
                            exact h_wk [(0, .ref 98), (1, .int x0), (2, .int x1), (3, .int x2), (4, .int x3), (5, .int (Int32.ofInt 0)), (6, .int z81), (7, .int z82)] ⟨rfl, rfl, rfl, rfl, rfl, rfl, rfl, rfl, trivial⟩ (ih _ Is78 Fs78 (Int32.ofInt 0) _ ci_0 (by omega) z81 _ hz81 (by omega) z82 _ hz82 (by omega) (by omega) (by have gz := g_mz_v (l := σ 111 a0) (n := σ 112 a0); have gv := g_fz_v (z := g_mz (σ 111 a0) (σ 112 a0)) (ln := σ 111 a0) (lane := a1) (e := a2 + 2 * b6); have gp : σ 113 (40 * a0 + a2 + b7 - 1) = σ 113 (40 * a0 + (a2 + 2 * b6)) := congrArg (σ 113) (by omega); have gg : σ 113 (40 * a0 + a2 + b7) = σ 113 (40 * a0 + (a2 + 2 * b6 + 1)) := congrArg (σ 113) (by omega); rcases ex1 with q | q; (refine Or.inl ⟨by omega, Or.inl (by omega), ?_⟩; exact g_rd_s (m' := (a3 - (b6 + 1)).toNat) q.2.2 (by omega) (by omega) (g_ok_y (by omega))); (exfalso; omega)) (by have gz := g_mz_v (l := σ 111 a0) (n := σ 112 a0); have gv := g_fz_v (z := g_mz (σ 111 a0) (σ 112 a0)) (ln := σ 111 a0) (lane := a1) (e := a2 + 2 * b6); have gp : σ 113 (40 * a0 + a2 + b7 - 1) = σ 113 (40 * a0 + (a2 + 2 * b6)) := congrArg (σ 113) (by omega); have gg : σ 113 (40 * a0 + a2 + b7) = σ 113 (40 * a0 + (a2 + 2 * b6 + 1)) := congrArg (σ 113) (by omega); obtain ⟨S0, z1, z2⟩ := ex2; exact ⟨S0, z1, g_hf_s z2 (by omega) (g_gM_mk ps76_0 rfl (F0_ 98 1 rfl) (funext (fun j => F0_ 100 j rfl)) rfl rfl rfl (funext (fun j => Gs76 99 j rfl)) ps78_0) (by omega) (by omega)⟩) (by omega) (by omega) (by omega) (g_all_s ex6 (by have gz := g_mz_v (l := σ 111 a0) (n := σ 112 a0); have gv := g_fz_v (z := g_mz (σ 111 a0) (σ 112 a0)) (ln := σ 111 a0) (lane := a1) (e := a2 + 2 * b6); have gp : σ 113 (40 * a0 + a2 + b7 - 1) = σ 113 (40 * a0 + (a2 + 2 * b6)) := congrArg (σ 113) (by omega); have gg : σ 113 (40 * a0 + a2 + b7) = σ 113 (40 * a0 + (a2 + 2 * b6 + 1)) := congrArg (σ 113) (by omega); rcases ex1 with q | q; exact g_ok_y (by omega); (exfalso; omega))) (by omega))
                          · refine h_iconst (pc' := 34) (x := (Int32.ofInt 1)) rfl rfl rfl ?_
                            refine h_goto (pc' := 38) rfl rfl ?_
                            refine h_iret rfl rfl (h_Kv ?_)
                            refine h_zge (tg := 189) (pc' := 175) rfl rfl rfl ci_1 (fun c83 => ?_) (fun c83 => absurd c83 (by omega))
                            refine h_iinc (pc' := 192) (M := fun z84 => [(6, .int z84), (8, .int z33), (5, .int (Int32.ofInt 0)), (0, .ref 98), (1, .int x0), (2, .int x1), (3, .int x2), (4, .int x3), (7, .int y7)]) rfl rfl rfl rfl hy6 ci_1 rfl (by omega) (by omega) (fun _ => rfl) (fun z84 hz84 => ?_)
                            refine h_iinc (pc' := 195) (M := fun z85 => [(7, .int z85), (6, .int z84), (8, .int z33), (5, .int (Int32.ofInt 0)), (0, .ref 98), (1, .int x0), (2, .int x1), (3, .int x2), (4, .int x3)]) rfl rfl rfl rfl hy7 ci_1 rfl (by omega) (by omega) (fun _ => rfl) (fun z85 hz85 => ?_)
                            refine h_goto (pc' := 56) rfl rfl ?_
                            exact h_wk [(0, .ref 98), (1, .int x0), (2, .int x1), (3, .int x2), (4, .int x3), (5, .int (Int32.ofInt 0)), (6, .int z84), (7, .int z85)] ⟨rfl, rfl, rfl, rfl, rfl, rfl, rfl, rfl, trivial⟩ (ih _ Is78 Fs78 (Int32.ofInt 0) _ ci_0 (by omega) z84 _ hz84 (by omega) z85 _ hz85 (by omega) (by omega) (by have gz := g_mz_v (l := σ 111 a0) (n := σ 112 a0); have gv := g_fz_v (z := g_mz (σ 111 a0) (σ 112 a0)) (ln := σ 111 a0) (lane := a1) (e := a2 + 2 * b6); have gp : σ 113 (40 * a0 + a2 + b7 - 1) = σ 113 (40 * a0 + (a2 + 2 * b6)) := congrArg (σ 113) (by omega); have gg : σ 113 (40 * a0 + a2 + b7) = σ 113 (40 * a0 + (a2 + 2 * b6 + 1)) := congrArg (σ 113) (by omega); rcases ex1 with q | q; (refine Or.inl ⟨by omega, Or.inl (by omega), ?_⟩; exact g_rd_s (m' := (a3 - (b6 + 1)).toNat) q.2.2 (by omega) (by omega) (g_ok_y (by omega))); (exfalso; omega)) (by have gz := g_mz_v (l := σ 111 a0) (n := σ 112 a0); have gv := g_fz_v (z := g_mz (σ 111 a0) (σ 112 a0)) (ln := σ 111 a0) (lane := a1) (e := a2 + 2 * b6); have gp : σ 113 (40 * a0 + a2 + b7 - 1) = σ 113 (40 * a0 + (a2 + 2 * b6)) := congrArg (σ 113) (by omega); have gg : σ 113 (40 * a0 + a2 + b7) = σ 113 (40 * a0 + (a2 + 2 * b6 + 1)) := congrArg (σ 113) (by omega); obtain ⟨S0, z1, z2⟩ := ex2; exact ⟨S0, z1, g_hf_s z2 (by omega) (g_gM_mk ps76_0 rfl (F0_ 98 1 rfl) (funext (fun j => F0_ 100 j rfl)) rfl rfl rfl (funext (fun j => Gs76 99 j rfl)) ps78_0) (by omega) (by omega)⟩) (by omega) (by omega) (by omega) (g_all_s ex6 (by have gz := g_mz_v (l := σ 111 a0) (n := σ 112 a0); have gv := g_fz_v (z := g_mz (σ 111 a0) (σ 112 a0)) (ln := σ 111 a0) (lane := a1) (e := a2 + 2 * b6); have gp : σ 113 (40 * a0 + a2 + b7 - 1) = σ 113 (40 * a0 + (a2 + 2 * b6)) := congrArg (σ 113) (by omega); have gg : σ 113 (40 * a0 + a2 + b7) = σ 113 (40 * a0 + (a2 + 2 * b6 + 1)) := congrArg (σ 113) (by omega); rcases ex1 with q | q; exact g_ok_y (by omega); (exfalso; omega))) (by omega))
          · refine h_iconst (pc' := 96) (x := (Int32.ofInt 3)) rfl rfl rfl ?_
            refine h_goto (pc' := 126) rfl rfl ?_
            refine h_istore (pc' := 128) (M := [(5, .int (Int32.ofInt 3)), (0, .ref 98), (1, .int x0), (2, .int x1), (3, .int x2), (4, .int x3), (6, .int y6), (7, .int y7)]) rfl rfl rfl rfl ?_
            refine h_iload (pc' := 130) rfl rfl rfl ?_
            refine h_zne (tg := 192) (pc' := 133) rfl rfl rfl ci_3 (fun c86 => ?_) (fun c86 => absurd c86 (by omega))
            refine h_iinc (pc' := 195) (M := fun z87 => [(7, .int z87), (5, .int (Int32.ofInt 3)), (0, .ref 98), (1, .int x0), (2, .int x1), (3, .int x2), (4, .int x3), (6, .int y6)]) rfl rfl rfl rfl hy7 ci_1 rfl (by omega) (by omega) (fun _ => rfl) (fun z87 hz87 => ?_)
            refine h_goto (pc' := 56) rfl rfl ?_
            exact h_wk [(0, .ref 98), (1, .int x0), (2, .int x1), (3, .int x2), (4, .int x3), (5, .int (Int32.ofInt 3)), (6, .int y6), (7, .int z87)] ⟨rfl, rfl, rfl, rfl, rfl, rfl, rfl, rfl, trivial⟩ (ih _ I0 F0_ (Int32.ofInt 3) _ ci_3 (by omega) y6 _ hy6 (by omega) z87 _ hz87 (by omega) (by omega) (by have gz := g_mz_v (l := σ 111 a0) (n := σ 112 a0); have gv := g_fz_v (z := g_mz (σ 111 a0) (σ 112 a0)) (ln := σ 111 a0) (lane := a1) (e := a2 + 2 * b6); rcases ex1 with q | q; (first | (refine Or.inl ⟨by omega, ?_, q.2.2⟩; omega) | (refine Or.inr ⟨by omega, ?_⟩; exact g_rd_f (m' := (a3 - (b6 + 1)).toNat) q.2.2 (by omega) (by omega) (by omega))); (exfalso; omega)) ex2 (by omega) (by omega) (by omega) ex6 (by omega))
        · refine h_iconst (pc' := 82) (x := (Int32.ofInt 1)) rfl rfl rfl ?_
          refine h_goto (pc' := 126) rfl rfl ?_
          refine h_istore (pc' := 128) (M := [(5, .int (Int32.ofInt 1)), (0, .ref 98), (1, .int x0), (2, .int x1), (3, .int x2), (4, .int x3), (6, .int y6), (7, .int y7)]) rfl rfl rfl rfl ?_
          refine h_iload (pc' := 130) rfl rfl rfl ?_
          refine h_zne (tg := 192) (pc' := 133) rfl rfl rfl ci_1 (fun c88 => ?_) (fun c88 => absurd c88 (by omega))
          refine h_iinc (pc' := 195) (M := fun z89 => [(7, .int z89), (5, .int (Int32.ofInt 1)), (0, .ref 98), (1, .int x0), (2, .int x1), (3, .int x2), (4, .int x3), (6, .int y6)]) rfl rfl rfl rfl hy7 ci_1 rfl (by omega) (by omega) (fun _ => rfl) (fun z89 hz89 => ?_)
          refine h_goto (pc' := 56) rfl rfl ?_
          exact h_wk [(0, .ref 98), (1, .int x0), (2, .int x1), (3, .int x2), (4, .int x3), (5, .int (Int32.ofInt 1)), (6, .int y6), (7, .int z89)] ⟨rfl, rfl, rfl, rfl, rfl, rfl, rfl, rfl, trivial⟩ (ih _ I0 F0_ (Int32.ofInt 1) _ ci_1 (by omega) y6 _ hy6 (by omega) z89 _ hz89 (by omega) (by omega) (by have gz := g_mz_v (l := σ 111 a0) (n := σ 112 a0); have gv := g_fz_v (z := g_mz (σ 111 a0) (σ 112 a0)) (ln := σ 111 a0) (lane := a1) (e := a2 + 2 * b6); rcases ex1 with q | q; (first | (refine Or.inl ⟨by omega, ?_, q.2.2⟩; omega) | (refine Or.inr ⟨by omega, ?_⟩; exact g_rd_f (m' := (a3 - (b6 + 1)).toNat) q.2.2 (by omega) (by omega) (by omega))); (exfalso; omega)) ex2 (by omega) (by omega) (by omega) ex6 (by omega))
set_option maxHeartbeats 100000000 in
set_option maxHeartbeats 100000000 in
theorem n_readM {ns : Nat} (σ : h_S) (hI : h_I σ) (x0 : Int32) (a0 : Int) (hx0 : x0.toInt = a0) (x1 : Int32) (a1 : Int) (hx1 : x1.toInt = a1) (x2 : Int32) (a2 : Int) (hx2 : x2.toInt = a2) (x3 : Int32) (a3 : Int) (hx3 : x3.toInt = a3) {Q : Option Value → h_S → Prop} (kk : ∀ (r : Int32) (b : Int) (hb : r.toInt = b) (τ : h_S), h_I τ → h_F (k_in kf_n_readM) τ σ → ((-60) ≤ b ∧ b ≤ 40) → (((¬ (0 ≤ a0 ∧ a0 ≤ 3 ∧ 0 ≤ a1 ∧ a1 ≤ 2 ∧ 0 ≤ a3 ∧ a3 ≤ 20)) ∧ b = -1 ∧ τ 99 = σ 99 ∧ τ 98 36 = σ 98 36) ∨ ((0 ≤ a0 ∧ a0 ≤ 3 ∧ 0 ≤ a1 ∧ a1 ≤ 2 ∧ 0 ≤ a3 ∧ a3 ≤ 20) ∧ ∃ w f S0, (w, f) = g_rd (fun i => g_fz (g_mz (σ 111 a0) (σ 112 a0)) (σ 111 a0) a1 (a2 + 2 * i)) (fun i => g_ok (σ 98 1) (σ 98 2) (σ 113 (40 * a0 + (a2 + 2 * i))) (σ 113 (40 * a0 + (a2 + 2 * i + 1)))) a3.toNat 0 ∧ b = w ∧ g_rp S0 (σ 99) ∧ ((w < 0 ∧ (∀ j, 0 ≤ j → j < 44 → τ 99 j = σ 99 j) ∧ τ 98 36 = σ 98 36) ∨ (0 ≤ w ∧ τ 98 36 = f ∧ g_hf (σ 98 1) (σ 100) (fun i => σ 113 (40 * a0 + (a2 + 2 * i))) (fun i => σ 113 (40 * a0 + (a2 + 2 * i + 1))) S0 w.toNat (τ 99))))) → Q (some (.int r)) τ) : h_T g_P (g_Y ns) 222 0 [(0, .ref 98), (1, .int x0), (2, .int x1), (3, .int x2), (4, .int x3)] [] σ Q := by
  have F00 : h_F (k_in kf_n_readM) σ σ := h_F.rf
  have gg0 := h_rgv hx2
  refine h_iload_n (pc' := 1) rfl rfl rfl ?_
  refine h_i2l (pc' := 2) rfl rfl hx0 (fun z1 hz1 => ?_)
  refine h_lconst (pc' := 3) (x := (Int64.ofInt 0)) rfl rfl rfl ?_
  refine h_ldc2 (pc' := 6) (x := (Int64.ofInt 3)) rfl rfl rfl ?_
  refine h_calls (pc' := 9) (M := [(0, .long z1), (2, .long (Int64.ofInt 0)), (4, .long (Int64.ofInt 3))]) rfl rfl rfl rfl rfl rfl ?_
  refine h_lload_n (pc' := 1) rfl rfl rfl ?_
  refine h_lload_n (pc' := 2) rfl rfl rfl ?_
  refine h_lcmp (pc' := 3) rfl rfl hz1 cl_0 (fun z2 hz2 => ?_)
  refine h_zlt (tg := 17) (pc' := 6) rfl rfl rfl rfl (fun c3 => ?_) (fun c3 => ?_)
  · replace c3 := (h_lcr hz2).1 c3
    clear hz2
    refine h_iconst (pc' := 18) (x := (Int32.ofInt 0)) rfl rfl rfl ?_
    refine h_zret rfl rfl ci_0 (by omega) (h_Kv ?_)
    refine h_zeq (tg := 37) (pc' := 12) rfl rfl rfl ci_0 (fun c4 => ?_) (fun c4 => absurd c4 (by omega))
    refine h_iconst (pc' := 38) (x := (Int32.ofInt (-1))) rfl rfl rfl ?_
    exact h_iret rfl rfl (kk _ _ ci_m1 _ hI F00 (by omega) (Or.inl ⟨by omega, rfl, rfl, rfl⟩))
  · replace c3 := (h_lcr hz2).2.1 c3
    clear hz2
    refine h_lload_n (pc' := 7) rfl rfl rfl ?_
    refine h_lload (pc' := 9) rfl rfl rfl ?_
    refine h_lcmp (pc' := 10) rfl rfl hz1 cl_3 (fun z5 hz5 => ?_)
    refine h_zgt (tg := 17) (pc' := 13) rfl rfl rfl rfl (fun c6 => ?_) (fun c6 => ?_)
    · replace c6 := (h_lcr hz5).2.2.2.1 c6
      clear hz5
      refine h_iconst (pc' := 18) (x := (Int32.ofInt 0)) rfl rfl rfl ?_
      refine h_zret rfl rfl ci_0 (by omega) (h_Kv ?_)
      refine h_zeq (tg := 37) (pc' := 12) rfl rfl rfl ci_0 (fun c7 => ?_) (fun c7 => absurd c7 (by omega))
      refine h_iconst (pc' := 38) (x := (Int32.ofInt (-1))) rfl rfl rfl ?_
      exact h_iret rfl rfl (kk _ _ ci_m1 _ hI F00 (by omega) (Or.inl ⟨by omega, rfl, rfl, rfl⟩))
    · replace c6 := (h_lcr hz5).2.2.1 c6
      clear hz5
      refine h_iconst (pc' := 14) (x := (Int32.ofInt 1)) rfl rfl rfl ?_
      refine h_goto (pc' := 18) rfl rfl ?_
      refine h_zret rfl rfl ci_1 (by omega) (h_Kv ?_)
      refine h_zeq (tg := 37) (pc' := 12) rfl rfl rfl ci_1 (fun c8 => absurd c8 (by omega)) (fun c8 => ?_)
      refine h_iload_n (pc' := 13) rfl rfl rfl ?_
      refine h_i2l (pc' := 14) rfl rfl hx1 (fun z9 hz9 => ?_)
      refine h_lconst (pc' := 15) (x := (Int64.ofInt 0)) rfl rfl rfl ?_
      refine h_ldc2 (pc' := 18) (x := (Int64.ofInt 2)) rfl rfl rfl ?_
      refine h_calls (pc' := 21) (M := [(0, .long z9), (2, .long (Int64.ofInt 0)), (4, .long (Int64.ofInt 2))]) rfl rfl rfl rfl rfl rfl ?_
      refine h_lload_n (pc' := 1) rfl rfl rfl ?_
      refine h_lload_n (pc' := 2) rfl rfl rfl ?_
      refine h_lcmp (pc' := 3) rfl rfl hz9 cl_0 (fun z10 hz10 => ?_)
      refine h_zlt (tg := 17) (pc' := 6) rfl rfl rfl rfl (fun c11 => ?_) (fun c11 => ?_)
      · replace c11 := (h_lcr hz10).1 c11
        clear hz10
        refine h_iconst (pc' := 18) (x := (Int32.ofInt 0)) rfl rfl rfl ?_
        refine h_zret rfl rfl ci_0 (by omega) (h_Kv ?_)
        refine h_zeq (tg := 37) (pc' := 24) rfl rfl rfl ci_0 (fun c12 => ?_) (fun c12 => absurd c12 (by omega))
        refine h_iconst (pc' := 38) (x := (Int32.ofInt (-1))) rfl rfl rfl ?_
        exact h_iret rfl rfl (kk _ _ ci_m1 _ hI F00 (by omega) (Or.inl ⟨by omega, rfl, rfl, rfl⟩))
      · replace c11 := (h_lcr hz10).2.1 c11
        clear hz10
        refine h_lload_n (pc' := 7) rfl rfl rfl ?_
        refine h_lload (pc' := 9) rfl rfl rfl ?_
        refine h_lcmp (pc' := 10) rfl rfl hz9 cl_2 (fun z13 hz13 => ?_)
        refine h_zgt (tg := 17) (pc' := 13) rfl rfl rfl rfl (fun c14 => ?_) (fun c14 => ?_)
        · replace c14 := (h_lcr hz13).2.2.2.1 c14
          clear hz13
          refine h_iconst (pc' := 18) (x := (Int32.ofInt 0)) rfl rfl rfl ?_
          refine h_zret rfl rfl ci_0 (by omega) (h_Kv ?_)
          refine h_zeq (tg := 37) (pc' := 24) rfl rfl rfl ci_0 (fun c15 => ?_) (fun c15 => absurd c15 (by omega))
          refine h_iconst (pc' := 38) (x := (Int32.ofInt (-1))) rfl rfl rfl ?_
          exact h_iret rfl rfl (kk _ _ ci_m1 _ hI F00 (by omega) (Or.inl ⟨by omega, rfl, rfl, rfl⟩))
        · replace c14 := (h_lcr hz13).2.2.1 c14
          clear hz13
          refine h_iconst (pc' := 14) (x := (Int32.ofInt 1)) rfl rfl rfl ?_
          refine h_goto (pc' := 18) rfl rfl ?_
          refine h_zret rfl rfl ci_1 (by omega) (h_Kv ?_)
          refine h_zeq (tg := 37) (pc' := 24) rfl rfl rfl ci_1 (fun c16 => absurd c16 (by omega)) (fun c16 => ?_)
          refine h_iload (pc' := 26) rfl rfl rfl ?_
          refine h_i2l (pc' := 27) rfl rfl hx3 (fun z17 hz17 => ?_)
          refine h_lconst (pc' := 28) (x := (Int64.ofInt 0)) rfl rfl rfl ?_
          refine h_ldc2 (pc' := 31) (x := (Int64.ofInt 20)) rfl rfl rfl ?_
          refine h_calls (pc' := 34) (M := [(0, .long z17), (2, .long (Int64.ofInt 0)), (4, .long (Int64.ofInt 20))]) rfl rfl rfl rfl rfl rfl ?_
          refine h_lload_n (pc' := 1) rfl rfl rfl ?_
          refine h_lload_n (pc' := 2) rfl rfl rfl ?_
          refine h_lcmp (pc' := 3) rfl rfl hz17 cl_0 (fun z18 hz18 => ?_)
          refine h_zlt (tg := 17) (pc' := 6) rfl rfl rfl rfl (fun c19 => ?_) (fun c19 => ?_)
          · replace c19 := (h_lcr hz18).1 c19
            clear hz18
            refine h_iconst (pc' := 18) (x := (Int32.ofInt 0)) rfl rfl rfl ?_
            refine h_zret rfl rfl ci_0 (by omega) (h_Kv ?_)
            refine h_zne (tg := 39) (pc' := 37) rfl rfl rfl ci_0 (fun c20 => absurd c20 (by omega)) (fun c20 => ?_)
            refine h_iconst (pc' := 38) (x := (Int32.ofInt (-1))) rfl rfl rfl ?_
            exact h_iret rfl rfl (kk _ _ ci_m1 _ hI F00 (by omega) (Or.inl ⟨by omega, rfl, rfl, rfl⟩))
          · replace c19 := (h_lcr hz18).2.1 c19
            clear hz18
            refine h_lload_n (pc' := 7) rfl rfl rfl ?_
            refine h_lload (pc' := 9) rfl rfl rfl ?_
            refine h_lcmp (pc' := 10) rfl rfl hz17 cl_20 (fun z21 hz21 => ?_)
            refine h_zgt (tg := 17) (pc' := 13) rfl rfl rfl rfl (fun c22 => ?_) (fun c22 => ?_)
            · replace c22 := (h_lcr hz21).2.2.2.1 c22
              clear hz21
              refine h_iconst (pc' := 18) (x := (Int32.ofInt 0)) rfl rfl rfl ?_
              refine h_zret rfl rfl ci_0 (by omega) (h_Kv ?_)
              refine h_zne (tg := 39) (pc' := 37) rfl rfl rfl ci_0 (fun c23 => absurd c23 (by omega)) (fun c23 => ?_)
              refine h_iconst (pc' := 38) (x := (Int32.ofInt (-1))) rfl rfl rfl ?_
              exact h_iret rfl rfl (kk _ _ ci_m1 _ hI F00 (by omega) (Or.inl ⟨by omega, rfl, rfl, rfl⟩))
            · replace c22 := (h_lcr hz21).2.2.1 c22
              clear hz21
              refine h_iconst (pc' := 14) (x := (Int32.ofInt 1)) rfl rfl rfl ?_
              refine h_goto (pc' := 18) rfl rfl ?_
              refine h_zret rfl rfl ci_1 (by omega) (h_Kv ?_)
              refine h_zne (tg := 39) (pc' := 37) rfl rfl rfl ci_1 (fun c24 => ?_) (fun c24 => absurd c24 (by omega))
              refine h_aload_n (pc' := 40) rfl rfl rfl ?_
              refine h_iconst (pc' := 41) (x := (Int32.ofInt 0)) rfl rfl rfl ?_
              refine h_sipush (pc' := 44) (x := (Int32.ofInt 176)) rfl rfl cs_176 ?_
              refine h_call (sp := false) (pc' := 47) (M := [(0, .ref 98), (1, .int (Int32.ofInt 0)), (2, .int (Int32.ofInt 176))]) rfl rfl rfl rfl rfl rfl rfl rfl ?_
              refine n_copies_0_176 _ hI   (fun s26 Is26 Gs26 ps26_0 => h_Kn ?_)
              have Fs26 := (Gs26.mono (B := kf_n_readM) rfl).tr F00
              have es26_0 : s26 98 36 = σ 98 36 := (Gs26 98 36 rfl).trans rfl
              refine h_iconst (pc' := 48) (x := (Int32.ofInt 0)) rfl rfl rfl ?_
              refine h_istore (pc' := 50) (M := [(5, .int (Int32.ofInt 0)), (0, .ref 98), (1, .int x0), (2, .int x1), (3, .int x2), (4, .int x3)]) rfl rfl rfl rfl ?_
              refine h_iconst (pc' := 51) (x := (Int32.ofInt 0)) rfl rfl rfl ?_
              refine h_istore (pc' := 53) (M := [(6, .int (Int32.ofInt 0)), (5, .int (Int32.ofInt 0)), (0, .ref 98), (1, .int x0), (2, .int x1), (3, .int x2), (4, .int x3)]) rfl rfl rfl rfl ?_
              refine h_iconst (pc' := 54) (x := (Int32.ofInt 0)) rfl rfl rfl ?_
              refine h_istore (pc' := 56) (M := [(7, .int (Int32.ofInt 0)), (6, .int (Int32.ofInt 0)), (5, .int (Int32.ofInt 0)), (0, .ref 98), (1, .int x0), (2, .int x1), (3, .int x2), (4, .int x3)]) rfl rfl rfl rfl ?_
              exact h_wk [(0, .ref 98), (1, .int x0), (2, .int x1), (3, .int x2), (4, .int x3), (5, .int (Int32.ofInt 0)), (6, .int (Int32.ofInt 0)), (7, .int (Int32.ofInt 0))] ⟨rfl, rfl, rfl, rfl, rfl, rfl, rfl, rfl, trivial⟩ ((n_readM_l ns σ hI x0 a0 hx0 x1 a1 hx1 x2 a2 hx2 x3 a3 hx3 kk 1000000000000) _ Is26 Fs26 (Int32.ofInt 0) _ ci_0 (by omega) (Int32.ofInt 0) _ ci_0 (by omega) (Int32.ofInt 0) _ ci_0 (by omega) (by omega) (Or.inl ⟨rfl, Or.inl rfl, by rw [Int.sub_zero]⟩) ⟨s26 99, ⟨fun j a b => Gs26.no (q := 99) (l := 0) (u := 175) (j := j) rfl (by omega) (by omega), fun j a b => (ps26_0 j a b).trans (congrArg (σ 99) (Int.zero_add j))⟩, rfl⟩ (by omega) (by omega) (by omega) (fun i a b => by omega) (by omega))
