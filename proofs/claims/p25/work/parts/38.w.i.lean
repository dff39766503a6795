def kf_n_row : List Nat := [90111, 91135]
set_option maxHeartbeats 100000000 in
set_option maxHeartbeats 100000000 in
theorem n_row_l (ns : Nat) (σ : h_S) (hI : h_I σ) (x0 : Int32) (a0 : Int) (hx0 : x0.toInt = a0) (ra0 : 0 ≤ a0 ∧ a0 ≤ 63) (x1 : Int32) (a1 : Int) (hx1 : x1.toInt = a1) (ra1 : 0 ≤ a1 ∧ a1 ≤ 6) (pr0 : ∀ p, 0 ≤ p → p < σ 85 4 → g_bi a0 p = true → 0 ≤ σ 87 (g_cb a0 p * 7 + p) ∧ σ 87 (g_cb a0 p * 7 + p) ≤ 6) {Q : Option Value → h_S → Prop} (kk : ∀ (τ : h_S), h_I τ → h_F (k_in kf_n_row) τ σ → (τ 87 = g_set (σ 87) (a0 * 7 + a1) (g_rw (σ 86) (σ 87) a0 a1 (σ 85 4).toNat)) → Q none τ) : ∀ n : Nat, (∀ (s0 : h_S), h_I s0 → h_F (k_in kf_n_row) s0 σ → ∀ (y3 : Int32) (b3 : Int), y3.toInt = b3 → (0 ≤ b3) → ∀ (y4 : Int32) (b4 : Int), y4.toInt = b4 → ∀ (y5 : Int32) (b5 : Int), y5.toInt = b5 → (0 ≤ b5 ∧ b5 ≤ 63) → ∀ (y6 : Int32) (b6 : Int), y6.toInt = b6 → (0 ≤ b6 ∧ b6 ≤ 6) → (g_nxb y5 a0 (σ 86 a1)) → (b3 = g_rw (σ 86) (σ 87) a0 a1 b6.toNat) → (s0 87 = σ 87) → (b6 ≤ σ 85 4) → (6 + 1 - b6) * 1000000 + 1000000000 ≤ (n : Int) → h_T g_P (g_Y ns) 35 18 [(0, .ref 85), (1, .int x0), (2, .int x1), (3, .int y3), (4, .int y4), (5, .int y5), (6, .int y6)] [] s0 Q) := by
  intro n
  induction n with
  | zero => exact by intro s0 I0 F0_ y3 b3 hy3 ry3 y4 b4 hy4 y5 b5 hy5 ry5 y6 b6 hy6 ry6 ex0 ex1 ex2 ex3 hm; have gy3 := h_rgv hy3; have gh0 := tf_85_4 hI; exfalso; omega
  | succ n ih =>
    intro s0 I0 F0_ y3 b3 hy3 ry3 y4 b4 hy4 y5 b5 hy5 ry5 y6 b6 hy6 ry6 ex0 ex1 ex2 ex3 hm; have gy3 := h_rgv hy3; have gh0 := tf_85_4 hI
    refine h_iload (pc' := 20) rfl rfl rfl ?_
    refine h_aload_n (pc' := 21) rfl rfl rfl ?_
    refine h_getI (pc' := 24) (v := σ 85 4) rfl rfl rfl rfl rfl (F0_ 85 4 rfl) (fun z1 hz1 => ?_)
    have tz1 := tf_85_4 hI
    refine h_cge (tg := 109) (pc' := 27) rfl rfl rfl hy6 hz1 (fun c2 => ?_) (fun c2 => ?_)
    · refine h_aload_n (pc' := 110) rfl rfl rfl ?_
      refine h_getR (pc' := 113) rfl rfl rfl rfl rfl ?_
      refine h_iload_n (pc' := 114) rfl rfl rfl ?_
      refine h_bipush (pc' := 116) (x := (Int32.ofInt 7)) rfl rfl cb_7 ?_
      refine h_imul (pc' := 117) rfl rfl hx0 ci_7 rfl (by omega) (by omega) (fun z3 hz3 => ?_)
      refine h_iload_n (pc' := 118) rfl rfl rfl ?_
      refine h_iadd (pc' := 119) rfl rfl hz3 hx1 rfl (by omega) (by omega) (fun z4 hz4 => ?_)
      refine h_iload_n (pc' := 120) rfl rfl rfl ?_
      refine h_iast (pc' := 121) rfl rfl rfl rfl hz4 (by omega) (by omega) hy3 (h_fgt (E := fun s => s 98 13 = s0 98 13 ∧ s = h_up s0 87 ((a0 * 7) + a1) b3) _ (in_87 I0 (h_rgv hy3)) (F0_.up rfl) ⟨rfl, rfl⟩ (fun s5 Is5 Fs5 (es5 : s5 98 13 = s0 98 13 ∧ s5 = h_up s0 87 ((a0 * 7) + a1) b3) => ?_))
      have us5 := es5.2
      refine h_aload_n (pc' := 122) rfl rfl rfl ?_
      refine h_getR (pc' := 125) rfl rfl rfl rfl rfl ?_
      refine h_iload_n (pc' := 126) rfl rfl rfl ?_
      refine h_bipush (pc' := 128) (x := (Int32.ofInt 7)) rfl rfl cb_7 ?_
      refine h_imul (pc' := 129) rfl rfl hx0 ci_7 rfl (by omega) (by omega) (fun z6 hz6 => ?_)
      refine h_iload_n (pc' := 130) rfl rfl rfl ?_
      refine h_iadd (pc' := 131) rfl rfl hz6 hx1 rfl (by omega) (by omega) (fun z7 hz7 => ?_)
      refine h_iload (pc' := 133) rfl rfl rfl ?_
      refine h_iast (pc' := 134) rfl rfl rfl rfl hz7 (by omega) (by omega) hy4 (h_fgt (E := fun s => s 98 13 = s0 98 13 ∧ s = h_up s5 88 ((a0 * 7) + a1) b4) _ (in_88 Is5 (h_rgv hy4)) (Fs5.up rfl) ⟨es5.1, rfl⟩ (fun s8 Is8 Fs8 (es8 : s8 98 13 = s0 98 13 ∧ s8 = h_up s5 88 ((a0 * 7) + a1) b4) => ?_))
      clear es5
      have us8 := es8.2
      exact h_vret rfl rfl (kk _ Is8 Fs8 (((h_upg us8 rfl).trans (h_upf us5)).trans (g_set_e ex2 rfl (by rw [show σ 85 4 = b6 by omega]; exact ex1))))
    · refine h_iload (pc' := 29) rfl rfl rfl ?_
      refine h_iload (pc' := 31) rfl rfl rfl ?_
      refine h_calls (pc' := 34) (M := [(0, .int y5), (1, .int y6)]) rfl rfl rfl rfl rfl rfl ?_
      refine h_iload_n (pc' := 1) rfl rfl rfl ?_
      refine h_iload_n (pc' := 2) rfl rfl rfl ?_
      refine h_ishr (pc' := 3) rfl rfl (fun z9 hz9 => ?_)
      refine h_iconst (pc' := 4) (x := (Int32.ofInt 1)) rfl rfl rfl ?_
      refine h_iand (pc' := 5) rfl rfl (fun z10 hz10 uz10 vz10 => ?_)
      clear uz10
      rw [ci_1] at vz10
      have yz10 := vz10 (by omega)
      refine h_zeq (tg := 12) (pc' := 8) rfl rfl rfl rfl (fun c11 => ?_) (fun c11 => ?_)
      · refine h_iconst (pc' := 13) (x := (Int32.ofInt 0)) rfl rfl rfl ?_
        refine h_zret rfl rfl ci_0 (by omega) (h_Kv ?_)
        refine h_zeq (tg := 103) (pc' := 37) rfl rfl rfl ci_0 (fun c12 => ?_) (fun c12 => absurd c12 (by omega))
        refine h_iinc (pc' := 106) (M := fun z13 => [(6, .int z13), (0, .ref 85), (1, .int x0), (2, .int x1), (3, .int y3), (4, .int y4), (5, .int y5)]) rfl rfl rfl rfl hy6 ci_1 rfl (by omega) (by omega) (fun _ => rfl) (fun z13 hz13 => ?_)
        refine h_goto (pc' := 18) rfl rfl ?_
        exact h_wk [(0, .ref 85), (1, .int x0), (2, .int x1), (3, .int y3), (4, .int y4), (5, .int y5), (6, .int z13)] ⟨rfl, rfl, rfl, rfl, rfl, rfl, rfl, trivial⟩ (ih _ I0 F0_ y3 _ hy3 (by omega) y4 _ hy4 y5 _ hy5 (by omega) z13 _ hz13 (by omega) ex0 (by have gz := g_hb_of hz10 hz9 hy6; have gx := ex0 b6 (by omega) (by omega); exact g_rw_n ex1 (by omega) (g_if_n gx (by omega)) rfl) ex2 (by omega) (by omega))
      · refine h_iconst (pc' := 9) (x := (Int32.ofInt 1)) rfl rfl rfl ?_
        refine h_goto (pc' := 13) rfl rfl ?_
        refine h_zret rfl rfl ci_1 (by omega) (h_Kv ?_)
        refine h_zeq (tg := 103) (pc' := 37) rfl rfl rfl ci_1 (fun c14 => absurd c14 (by omega)) (fun c14 => ?_)
        refine h_iload_n (pc' := 38) rfl rfl rfl ?_
        refine h_iconst (pc' := 39) (x := (Int32.ofInt 1)) rfl rfl rfl ?_
        refine h_iload (pc' := 41) rfl rfl rfl ?_
        refine h_shl1 (pc' := 42) rfl rfl ci_1 hy6 (by omega) (by omega) (fun z15 hz15 vz15 => ?_)
        refine h_iconst (pc' := 43) (x := (Int32.ofInt (-1))) rfl rfl rfl ?_
        refine h_ixor (pc' := 44) rfl rfl (fun z16 hz16 => ?_)
        refine h_iand (pc' := 45) rfl rfl (fun z17 hz17 uz17 vz17 => ?_)
        rw [hx0] at uz17
        have wz17 := uz17 (by omega)
        clear vz17
        refine h_bipush (pc' := 47) (x := (Int32.ofInt 7)) rfl rfl cb_7 ?_
        refine h_imul (pc' := 48) rfl rfl rfl ci_7 rfl (by omega) (by omega) (fun z18 hz18 => ?_)
        refine h_iload (pc' := 50) rfl rfl rfl ?_
        refine h_iadd (pc' := 51) rfl rfl hz18 hy6 rfl (by omega) (by omega) (fun z19 hz19 => ?_)
        refine h_istore (pc' := 53) (M := [(7, .int z19), (0, .ref 85), (1, .int x0), (2, .int x1), (3, .int y3), (4, .int y4), (5, .int y5), (6, .int y6)]) rfl rfl rfl rfl ?_
        refine h_aload_n (pc' := 54) rfl rfl rfl ?_
        refine h_getR (pc' := 57) rfl rfl rfl rfl rfl ?_
        refine h_iload (pc' := 59) rfl rfl rfl ?_
        refine h_iald (pc' := 60) (v := s0 87 ((z17.toInt * 7) + b6)) rfl rfl rfl hz19 (by omega) (by omega) rfl (fun z20 hz20 => ?_)
        have tz20 := ty_87 I0 ((z17.toInt * 7) + b6)
        refine h_iconst (pc' := 61) (x := (Int32.ofInt 1)) rfl rfl rfl ?_
        refine h_iaddA (pc' := 62) rfl rfl (fun z21 hz21 => ?_)
        have dz21 := h_iaddC hz20 ci_1 hz21
        refine h_istore (pc' := 64) (M := [(8, .int z21), (7, .int z19), (0, .ref 85), (1, .int x0), (2, .int x1), (3, .int y3), (4, .int y4), (5, .int y5), (6, .int y6)]) rfl rfl rfl rfl ?_
        refine h_iload (pc' := 66) rfl rfl rfl ?_
        refine h_iload_n (pc' := 67) rfl rfl rfl ?_
        refine h_cle (tg := 85) (pc' := 70) rfl rfl rfl rfl hy3 (fun c22 => ?_) (fun c22 => ?_)
        · refine h_iload (pc' := 87) rfl rfl rfl ?_
          refine h_iload_n (pc' := 88) rfl rfl rfl ?_
          refine h_cne (tg := 103) (pc' := 91) rfl rfl rfl rfl hy3 (fun c23 => ?_) (fun c23 => ?_)
          · refine h_iinc (pc' := 106) (M := fun z24 => [(6, .int z24), (8, .int z21), (7, .int z19), (0, .ref 85), (1, .int x0), (2, .int x1), (3, .int y3), (4, .int y4), (5, .int y5)]) rfl rfl rfl rfl hy6 ci_1 rfl (by omega) (by omega) (fun _ => rfl) (fun z24 hz24 => ?_)
            refine h_goto (pc' := 18) rfl rfl ?_
            exact h_wk [(0, .ref 85), (1, .int x0), (2, .int x1), (3, .int y3), (4, .int y4), (5, .int y5), (6, .int z24)] ⟨rfl, rfl, rfl, rfl, rfl, rfl, rfl, trivial⟩ (ih _ I0 F0_ y3 _ hy3 (by omega) y4 _ hy4 y5 _ hy5 (by omega) z24 _ hz24 (by omega) ex0 (by have gz := g_hb_of hz10 hz9 hy6; have gx := ex0 b6 (by omega) (by omega); have gc := g_if_y gx (by omega); have gb := g_cb_of hz17 hz16 hz15 hy6 hx0 rfl; have ge : s0 87 (z17.toInt * 7 + b6) = σ 87 (g_cb a0 b6 * 7 + b6) := (by rw [gb, ex2]); have gp := pr0 b6 (by omega) (by omega) (by rw [Bool.and_eq_true] at gc; exact gc.1); exact g_rw_y ex1 (by omega) gc (by omega)) ex2 (by omega) (by omega))
          · refine h_iload (pc' := 93) rfl rfl rfl ?_
            refine h_aload_n (pc' := 94) rfl rfl rfl ?_
            refine h_getR (pc' := 97) rfl rfl rfl rfl rfl ?_
            refine h_iload (pc' := 99) rfl rfl rfl ?_
            refine h_iald (pc' := 100) (v := s0 88 ((z17.toInt * 7) + b6)) rfl rfl rfl hz19 (by omega) (by omega) rfl (fun z25 hz25 => ?_)
            have tz25 := ty_88 I0 ((z17.toInt * 7) + b6)
            refine h_iaddA (pc' := 101) rfl rfl (fun z26 hz26 => ?_)
            have dz26 := h_iaddC hy4 hz25 hz26
            refine h_istore (pc' := 103) (M := [(4, .int z26), (8, .int z21), (7, .int z19), (0, .ref 85), (1, .int x0), (2, .int x1), (3, .int y3), (5, .int y5), (6, .int y6)]) rfl rfl rfl rfl ?_
            refine h_iinc (pc' := 106) (M := fun z27 => [(6, .int z27), (4, .int z26), (8, .int z21), (7, .int z19), (0, .ref 85), (1, .int x0), (2, .int x1), (3, .int y3), (5, .int y5)]) rfl rfl rfl rfl hy6 ci_1 rfl (by omega) (by omega) (fun _ => rfl) (fun z27 hz27 => ?_)
            refine h_goto (pc' := 18) rfl rfl ?_
            exact h_wk [(0, .ref 85), (1, .int x0), (2, .int x1), (3, .int y3), (4, .int z26), (5, .int y5), (6, .int z27)] ⟨rfl, rfl, rfl, rfl, rfl, rfl, rfl, trivial⟩ (ih _ I0 F0_ y3 _ hy3 (by omega) z26 _ rfl y5 _ hy5 (by omega) z27 _ hz27 (by omega) ex0 (by have gz := g_hb_of hz10 hz9 hy6; have gx := ex0 b6 (by omega) (by omega); have gc := g_if_y gx (by omega); have gb := g_cb_of hz17 hz16 hz15 hy6 hx0 rfl; have ge : s0 87 (z17.toInt * 7 + b6) = σ 87 (g_cb a0 b6 * 7 + b6) := (by rw [gb, ex2]); have gp := pr0 b6 (by omega) (by omega) (by rw [Bool.and_eq_true] at gc; exact gc.1); exact g_rw_y ex1 (by omega) gc (by omega)) ex2 (by omega) (by omega))
        · refine h_iload (pc' := 72) rfl rfl rfl ?_
          refine h_istore_n (pc' := 73) (M := [(3, .int z21), (8, .int z21), (7, .int z19), (0, .ref 85), (1, .int x0), (2, .int x1), (4, .int y4), (5, .int y5), (6, .int y6)]) rfl rfl rfl rfl ?_
          refine h_aload_n (pc' := 74) rfl rfl rfl ?_
          refine h_getR (pc' := 77) rfl rfl rfl rfl rfl ?_
          refine h_iload (pc' := 79) rfl rfl rfl ?_
          refine h_iald (pc' := 80) (v := s0 88 ((z17.toInt * 7) + b6)) rfl rfl rfl hz19 (by omega) (by omega) rfl (fun z28 hz28 => ?_)
          have tz28 := ty_88 I0 ((z17.toInt * 7) + b6)
          refine h_istore (pc' := 82) (M := [(4, .int z28), (3, .int z21), (8, .int z21), (7, .int z19), (0, .ref 85), (1, .int x0), (2, .int x1), (5, .int y5), (6, .int y6)]) rfl rfl rfl rfl ?_
          refine h_goto (pc' := 103) rfl rfl ?_
          refine h_iinc (pc' := 106) (M := fun z29 => [(6, .int z29), (4, .int z28), (3, .int z21), (8, .int z21), (7, .int z19), (0, .ref 85), (1, .int x0), (2, .int x1), (5, .int y5)]) rfl rfl rfl rfl hy6 ci_1 rfl (by omega) (by omega) (fun _ => rfl) (fun z29 hz29 => ?_)
          refine h_goto (pc' := 18) rfl rfl ?_
          exact h_wk [(0, .ref 85), (1, .int x0), (2, .int x1), (3, .int z21), (4, .int z28), (5, .int y5), (6, .int z29)] ⟨rfl, rfl, rfl, rfl, rfl, rfl, rfl, trivial⟩ (ih _ I0 F0_ z21 _ rfl (by omega) z28 _ hz28 y5 _ hy5 (by omega) z29 _ hz29 (by omega) ex0 (by have gz := g_hb_of hz10 hz9 hy6; have gx := ex0 b6 (by omega) (by omega); have gc := g_if_y gx (by omega); have gb := g_cb_of hz17 hz16 hz15 hy6 hx0 rfl; have ge : s0 87 (z17.toInt * 7 + b6) = σ 87 (g_cb a0 b6 * 7 + b6) := (by rw [gb, ex2]); have gp := pr0 b6 (by omega) (by omega) (by rw [Bool.and_eq_true] at gc; exact gc.1); exact g_rw_y ex1 (by omega) gc (by omega)) ex2 (by omega) (by omega))
set_option maxHeartbeats 100000000 in
set_option maxHeartbeats 100000000 in
theorem n_row {ns : Nat} (σ : h_S) (hI : h_I σ) (x0 : Int32) (a0 : Int) (hx0 : x0.toInt = a0) (ra0 : 0 ≤ a0 ∧ a0 ≤ 63) (x1 : Int32) (a1 : Int) (hx1 : x1.toInt = a1) (ra1 : 0 ≤ a1 ∧ a1 ≤ 6) (pr0 : ∀ p, 0 ≤ p → p < σ 85 4 → g_bi a0 p = true → 0 ≤ σ 87 (g_cb a0 p * 7 + p) ∧ σ 87 (g_cb a0 p * 7 + p) ≤ 6) {Q : Option Value → h_S → Prop} (kk : ∀ (τ : h_S), h_I τ → h_F (k_in kf_n_row) τ σ → (τ 87 = g_set (σ 87) (a0 * 7 + a1) (g_rw (σ 86) (σ 87) a0 a1 (σ 85 4).toNat)) → Q none τ) : h_T g_P (g_Y ns) 35 0 [(0, .ref 85), (1, .int x0), (2, .int x1)] [] σ Q := by
  have F00 : h_F (k_in kf_n_row) σ σ := h_F.rf
  have ge0 := tf_85_4 hI
  refine h_iconst (pc' := 1) (x := (Int32.ofInt 0)) rfl rfl rfl ?_
  refine h_istore_n (pc' := 2) (M := [(3, .int (Int32.ofInt 0)), (0, .ref 85), (1, .int x0), (2, .int x1)]) rfl rfl rfl rfl ?_
  refine h_iconst (pc' := 3) (x := (Int32.ofInt 1)) rfl rfl rfl ?_
  refine h_istore (pc' := 5) (M := [(4, .int (Int32.ofInt 1)), (3, .int (Int32.ofInt 0)), (0, .ref 85), (1, .int x0), (2, .int x1)]) rfl rfl rfl rfl ?_
  refine h_iload_n (pc' := 6) rfl rfl rfl ?_
  refine h_aload_n (pc' := 7) rfl rfl rfl ?_
  refine h_getR (pc' := 10) rfl rfl rfl rfl rfl ?_
  refine h_iload_n (pc' := 11) rfl rfl rfl ?_
  refine h_iald (pc' := 12) (v := σ 86 a1) rfl rfl rfl hx1 (by omega) (by omega) rfl (fun z1 hz1 => ?_)
  have tz1 := ty_86 hI a1
  refine h_iand (pc' := 13) rfl rfl (fun z2 hz2 uz2 vz2 => ?_)
  rw [hx0] at uz2
  have wz2 := uz2 (by omega)
  clear vz2
  refine h_istore (pc' := 15) (M := [(5, .int z2), (4, .int (Int32.ofInt 1)), (3, .int (Int32.ofInt 0)), (0, .ref 85), (1, .int x0), (2, .int x1)]) rfl rfl rfl rfl ?_
  refine h_iconst (pc' := 16) (x := (Int32.ofInt 0)) rfl rfl rfl ?_
  refine h_istore (pc' := 18) (M := [(6, .int (Int32.ofInt 0)), (5, .int z2), (4, .int (Int32.ofInt 1)), (3, .int (Int32.ofInt 0)), (0, .ref 85), (1, .int x0), (2, .int x1)]) rfl rfl rfl rfl ?_
  exact h_wk [(0, .ref 85), (1, .int x0), (2, .int x1), (3, .int (Int32.ofInt 0)), (4, .int (Int32.ofInt 1)), (5, .int z2), (6, .int (Int32.ofInt 0))] ⟨rfl, rfl, rfl, rfl, rfl, rfl, rfl, trivial⟩ ((n_row_l ns σ hI x0 a0 hx0 ra0 x1 a1 hx1 ra1 pr0 kk 1000000000000) _ hI F00 (Int32.ofInt 0) _ ci_0 (by omega) (Int32.ofInt 1) _ ci_1 z2 _ rfl (by omega) (Int32.ofInt 0) _ ci_0 (by omega) (fun p p0 p1 => g_hb_and hz2 hx0 hz1 p0 p1) rfl rfl (by omega) (by omega))
