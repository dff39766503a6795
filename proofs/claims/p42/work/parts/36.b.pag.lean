def kf_n_match : List Nat := [100378, 100379, 101888, 101892, 108543, 109567, 110591]
set_option maxHeartbeats 100000000 in
set_option maxHeartbeats 100000000 in
theorem n_match_l (ns : Nat) (σ : h_S) (hI : h_I σ) (x0 : Int32) (a0 : Int) (hx0 : x0.toInt = a0) (x1 : Int32) (a1 : Int) (hx1 : x1.toInt = a1) {Q : Option Value → h_S → Prop} (kk : ∀ (r : Int32) (b : Int) (hb : r.toInt = b) (τ : h_S), h_I τ → h_F (k_in kf_n_match) τ σ → ((-4) ≤ b ∧ b ≤ 63) → (c_pg true (fun j => σ 99 (0 + j)) (fun j => τ 99 (0 + j))) → Q (some (.int r)) τ) : ∀ n : Nat, (∀ (s0 : h_S), h_I s0 → h_F (k_in kf_n_match) s0 σ → ∀ (y3 : Int32) (b3 : Int), y3.toInt = b3 → (0 ≤ b3 ∧ b3 ≤ 6) → ∀ (y4 : Int32) (b4 : Int), y4.toInt = b4 → ((-4) ≤ b4 ∧ b4 ≤ 63) → ∀ (y5 : Int32) (b5 : Int), y5.toInt = b5 → (0 ≤ b5 ∧ b5 ≤ 6) → (0 ≤ a0 ∧ a0 ≤ 2) → (∀ j, 0 ≤ j → j < 44 → s0 99 (176 + j) = σ 99 (0 + j)) → (c_pg true (fun j => σ 99 (0 + j)) (fun j => s0 99 (0 + j))) → (6 + 1 - b5) * 1000000 + 1000000000 ≤ (n : Int) → h_T g_P (g_Y ns) 202 64 [(0, .ref 98), (1, .int x0), (2, .int x1), (3, .int y3), (4, .int y4), (5, .int y5)] [] s0 Q) ∧ (∀ (s0 : h_S), h_I s0 → h_F (k_in kf_n_match) s0 σ → ∀ (y3 : Int32) (b3 : Int), y3.toInt = b3 → (0 ≤ b3 ∧ b3 ≤ 6) → ∀ (y4 : Int32) (b4 : Int), y4.toInt = b4 → ((-4) ≤ b4 ∧ b4 ≤ 63) → ∀ (y5 : Int32) (b5 : Int), y5.toInt = b5 → (0 ≤ b5 ∧ b5 ≤ 5) → ∀ (y6 : Int32) (b6 : Int), y6.toInt = b6 → (1 ≤ b6 ∧ b6 ≤ 6) → (0 ≤ a0 ∧ a0 ≤ 2) → (∀ j, 0 ≤ j → j < 44 → s0 99 (176 + j) = σ 99 (0 + j)) → (c_pg true (fun j => σ 99 (0 + j)) (fun j => s0 99 (0 + j))) → ((6 + 1 - b5) - 1) * 1000000 + 1000000000 + (6 + 1 - b6) * 1000 + 100000 ≤ (n : Int) → h_T g_P (g_Y ns) 202 79 [(0, .ref 98), (1, .int x0), (2, .int x1), (3, .int y3), (4, .int y4), (5, .int y5), (6, .int y6)] [] s0 Q) := by
  intro n
  induction n with
  | zero => exact ⟨by intro s0 I0 F0_ y3 b3 hy3 ry3 y4 b4 hy4 ry4 y5 b5 hy5 ry5 ex0 ex1 ex2 hm; exfalso; omega, by intro s0 I0 F0_ y3 b3 hy3 ry3 y4 b4 hy4 ry4 y5 b5 hy5 ry5 y6 b6 hy6 ry6 ex0 ex1 ex2 hm; exfalso; omega⟩
  | succ n ih =>
    refine ⟨?_, ?_⟩
    · intro s0 I0 F0_ y3 b3 hy3 ry3 y4 b4 hy4 ry4 y5 b5 hy5 ry5 ex0 ex1 ex2 hm
      refine h_iload (pc' := 66) rfl rfl rfl ?_
      refine h_aload_n (pc' := 67) rfl rfl rfl ?_
      refine h_getI (pc' := 70) (v := σ 98 1) rfl rfl rfl rfl rfl (F0_ 98 1 rfl) (fun z1 hz1 => ?_)
      have tz1 := tf_98_1 hI
      refine h_cge (tg := 168) (pc' := 73) rfl rfl rfl hy5 hz1 (fun c2 => ?_) (fun c2 => ?_)
      · refine h_iload (pc' := 170) rfl rfl rfl ?_
        refine h_bipush (pc' := 172) (x := (Int32.ofInt (-4))) rfl rfl cb_m4 ?_
        refine h_ceq (tg := 179) (pc' := 175) rfl rfl rfl hy4 ci_m4 (fun c3 => ?_) (fun c3 => ?_)
        · refine h_iload (pc' := 181) rfl rfl rfl ?_
          refine h_goto (pc' := 185) rfl rfl ?_
          exact h_iret rfl rfl (kk _ _ hy4 _ I0 F0_ (by omega) ex2)
        · refine h_iload_n (pc' := 176) rfl rfl rfl ?_
          refine h_zne (tg := 184) (pc' := 179) rfl rfl rfl hx1 (fun c4 => ?_) (fun c4 => ?_)
          · refine h_iload_n (pc' := 185) rfl rfl rfl ?_
            exact h_iret rfl rfl (kk _ _ hy3 _ I0 F0_ (by omega) ex2)
          · refine h_iload (pc' := 181) rfl rfl rfl ?_
            refine h_goto (pc' := 185) rfl rfl ?_
            exact h_iret rfl rfl (kk _ _ hy4 _ I0 F0_ (by omega) ex2)
      · refine h_iload (pc' := 75) rfl rfl rfl ?_
        refine h_iconst (pc' := 76) (x := (Int32.ofInt 1)) rfl rfl rfl ?_
        refine h_iadd (pc' := 77) rfl rfl hy5 ci_1 rfl (by omega) (by omega) (fun z5 hz5 => ?_)
        refine h_istore (pc' := 79) (M := [(6, .int z5), (0, .ref 98), (1, .int x0), (2, .int x1), (3, .int y3), (4, .int y4), (5, .int y5)]) rfl rfl rfl rfl ?_
        exact h_wk [(0, .ref 98), (1, .int x0), (2, .int x1), (3, .int y3), (4, .int y4), (5, .int y5), (6, .int z5)] ⟨rfl, rfl, rfl, rfl, rfl, rfl, rfl, trivial⟩ (ih.2 _ I0 F0_ y3 _ hy3 (by omega) y4 _ hy4 (by omega) y5 _ hy5 (by omega) z5 _ hz5 (by omega) (by omega) ex1 ex2 (by omega))
    · intro s0 I0 F0_ y3 b3 hy3 ry3 y4 b4 hy4 ry4 y5 b5 hy5 ry5 y6 b6 hy6 ry6 ex0 ex1 ex2 hm
      refine h_iload (pc' := 81) rfl rfl rfl ?_
      refine h_aload_n (pc' := 82) rfl rfl rfl ?_
      refine h_getI (pc' := 85) (v := σ 98 1) rfl rfl rfl rfl rfl (F0_ 98 1 rfl) (fun z1 hz1 => ?_)
      have tz1 := tf_98_1 hI
      refine h_cge (tg := 162) (pc' := 88) rfl rfl rfl hy6 hz1 (fun c2 => ?_) (fun c2 => ?_)
      · refine h_iinc (pc' := 165) (M := fun z3 => [(5, .int z3), (0, .ref 98), (1, .int x0), (2, .int x1), (3, .int y3), (4, .int y4), (6, .int y6)]) rfl rfl rfl rfl hy5 ci_1 rfl (by omega) (by omega) (fun _ => rfl) (fun z3 hz3 => ?_)
        refine h_goto (pc' := 64) rfl rfl ?_
        exact h_wk [(0, .ref 98), (1, .int x0), (2, .int x1), (3, .int y3), (4, .int y4), (5, .int z3)] ⟨rfl, rfl, rfl, rfl, rfl, rfl, trivial⟩ (ih.1 _ I0 F0_ y3 _ hy3 (by omega) y4 _ hy4 (by omega) z3 _ hz3 (by omega) (by omega) ex1 ex2 (by omega))
      · refine h_aload_n (pc' := 89) rfl rfl rfl ?_
        refine h_iconst (pc' := 90) (x := (Int32.ofInt 0)) rfl rfl rfl ?_
        refine h_iload (pc' := 92) rfl rfl rfl ?_
        refine h_iload (pc' := 94) rfl rfl rfl ?_
        refine h_call (sp := false) (pc' := 97) (M := [(0, .ref 98), (1, .int (Int32.ofInt 0)), (2, .int y5), (3, .int y6)]) rfl rfl rfl rfl rfl rfl rfl rfl ?_
        refine w_180_98_e0 _ I0  y5 _ hy5 y6 _ hy6 (fun r4 br4 hr4 s5 Is5 Gs5 tr4 => h_Kv ?_)
        have Fs5 := (Gs5.mono (B := kf_n_match) rfl).tr F0_
        have es5_0 : s5 98 13 = s0 98 13 := (Gs5 98 13 rfl).trans rfl
        refine h_pop (pc' := 98) rfl rfl rfl ?_
        refine h_aload_n (pc' := 99) rfl rfl rfl ?_
        refine h_iconst (pc' := 100) (x := (Int32.ofInt 0)) rfl rfl rfl ?_
        refine h_call (sp := false) (pc' := 103) (M := [(0, .ref 98), (1, .int (Int32.ofInt 0))]) rfl rfl rfl rfl rfl rfl rfl rfl ?_
        refine w_162_98 _ Is5 (Int32.ofInt 0) _ ci_0 (by omega) (fun s7 Is7 Gs7 => h_Kn ?_)
        have Fs7 := (Gs7.mono (B := kf_n_match) rfl).tr Fs5
        have es7_0 : s7 98 13 = s0 98 13 := (Gs7 98 13 rfl).trans es5_0
        clear es5_0
        refine h_aload_n (pc' := 104) rfl rfl rfl ?_
        refine h_iload_n (pc' := 105) rfl rfl rfl ?_
        refine h_call (sp := false) (pc' := 108) (M := [(0, .ref 98), (1, .int x0)]) rfl rfl rfl rfl rfl rfl rfl rfl ?_
        refine v_lines _ Is7 x0 _ hx0 (by omega) (fun s9 Is9 Gs9 => h_Kn ?_)
        have Fs9 := (Gs9.mono (B := kf_n_match) rfl).tr Fs7
        have es9_0 : s9 98 13 = s0 98 13 := (Gs9 98 13 rfl).trans es7_0
        clear es7_0
        refine h_aload_n (pc' := 109) rfl rfl rfl ?_
        refine h_getI (pc' := 112) (v := s9 98 26) rfl rfl rfl rfl rfl rfl (fun z10 hz10 => ?_)
        have tz10 := tf_98_26 Is9
        refine h_iload_n (pc' := 113) rfl rfl rfl ?_
        refine h_cle (tg := 127) (pc' := 116) rfl rfl rfl hz10 hy3 (fun c11 => ?_) (fun c11 => ?_)
        · refine h_iload (pc' := 129) rfl rfl rfl ?_
          refine h_istore (pc' := 131) (M := [(4, .int y4), (0, .ref 98), (1, .int x0), (2, .int x1), (3, .int y3), (5, .int y5), (6, .int y6)]) rfl rfl rfl rfl ?_
          refine h_aload_n (pc' := 132) rfl rfl rfl ?_
          refine h_getI (pc' := 135) (v := s9 98 26) rfl rfl rfl rfl rfl rfl (fun z12 hz12 => ?_)
          have tz12 := tf_98_26 Is9
          refine h_iload_n (pc' := 136) rfl rfl rfl ?_
          refine h_cle (tg := 146) (pc' := 139) rfl rfl rfl hz12 hy3 (fun c13 => ?_) (fun c13 => ?_)
          · refine h_iload_n (pc' := 147) rfl rfl rfl ?_
            refine h_istore_n (pc' := 148) (M := [(3, .int y3), (4, .int y4), (0, .ref 98), (1, .int x0), (2, .int x1), (5, .int y5), (6, .int y6)]) rfl rfl rfl rfl ?_
            refine h_aload_n (pc' := 149) rfl rfl rfl ?_
            refine h_sipush (pc' := 152) (x := (Int32.ofInt 176)) rfl rfl cs_176 ?_
            refine h_iconst (pc' := 153) (x := (Int32.ofInt 0)) rfl rfl rfl ?_
            refine h_call (sp := false) (pc' := 156) (M := [(0, .ref 98), (1, .int (Int32.ofInt 176)), (2, .int (Int32.ofInt 0))]) rfl rfl rfl rfl rfl rfl rfl rfl ?_
            refine n_copies_176_0 _ Is9   (fun s15 Is15 Gs15 ps15_0 => h_Kn ?_)
            have Fs15 := (Gs15.mono (B := kf_n_match) rfl).tr Fs9
            have es15_0 : s15 98 13 = s0 98 13 := (Gs15 98 13 rfl).trans es9_0
            refine h_iinc (pc' := 159) (M := fun z16 => [(6, .int z16), (3, .int y3), (4, .int y4), (0, .ref 98), (1, .int x0), (2, .int x1), (5, .int y5)]) rfl rfl rfl rfl hy6 ci_1 rfl (by omega) (by omega) (fun _ => rfl) (fun z16 hz16 => ?_)
            refine h_goto (pc' := 79) rfl rfl ?_
            exact h_wk [(0, .ref 98), (1, .int x0), (2, .int x1), (3, .int y3), (4, .int y4), (5, .int y5), (6, .int z16)] ⟨rfl, rfl, rfl, rfl, rfl, rfl, rfl, trivial⟩ (ih.2 _ Is15 Fs15 y3 _ hy3 (by omega) y4 _ hy4 (by omega) y5 _ hy5 (by omega) z16 _ hz16 (by omega) (by omega) (fun j a b => ((Gs15.no (q := 99) (l := 176) (u := 219) (j := 176 + j) rfl (by omega) (by omega)).trans ((Gs9.no (q := 99) (l := 176) (u := 219) (j := 176 + j) rfl (by omega) (by omega)).trans ((Gs7.no (q := 99) (l := 176) (u := 219) (j := 176 + j) rfl (by omega) (by omega)).trans ((Gs5.no (q := 99) (l := 176) (u := 219) (j := 176 + j) rfl (by omega) (by omega)))))).trans (ex1 j a b)) (c_pg.all (fun j a b => ((ps15_0 j a b).trans ((Gs9.no (q := 99) (l := 176) (u := 219) (j := 176 + j) rfl (by omega) (by omega)).trans ((Gs7.no (q := 99) (l := 176) (u := 219) (j := 176 + j) rfl (by omega) (by omega)).trans ((Gs5.no (q := 99) (l := 176) (u := 219) (j := 176 + j) rfl (by omega) (by omega)))))).trans (ex1 j a b))) (by omega))
          · refine h_aload_n (pc' := 140) rfl rfl rfl ?_
            refine h_getI (pc' := 143) (v := s9 98 26) rfl rfl rfl rfl rfl rfl (fun z17 hz17 => ?_)
            have tz17 := tf_98_26 Is9
            refine h_goto (pc' := 147) rfl rfl ?_
            refine h_istore_n (pc' := 148) (M := [(3, .int z17), (4, .int y4), (0, .ref 98), (1, .int x0), (2, .int x1), (5, .int y5), (6, .int y6)]) rfl rfl rfl rfl ?_
            refine h_aload_n (pc' := 149) rfl rfl rfl ?_
            refine h_sipush (pc' := 152) (x := (Int32.ofInt 176)) rfl rfl cs_176 ?_
            refine h_iconst (pc' := 153) (x := (Int32.ofInt 0)) rfl rfl rfl ?_
            refine h_call (sp := false) (pc' := 156) (M := [(0, .ref 98), (1, .int (Int32.ofInt 176)), (2, .int (Int32.ofInt 0))]) rfl rfl rfl rfl rfl rfl rfl rfl ?_
            refine n_copies_176_0 _ Is9   (fun s19 Is19 Gs19 ps19_0 => h_Kn ?_)
            have Fs19 := (Gs19.mono (B := kf_n_match) rfl).tr Fs9
            have es19_0 : s19 98 13 = s0 98 13 := (Gs19 98 13 rfl).trans es9_0
            refine h_iinc (pc' := 159) (M := fun z20 => [(6, .int z20), (3, .int z17), (4, .int y4), (0, .ref 98), (1, .int x0), (2, .int x1), (5, .int y5)]) rfl rfl rfl rfl hy6 ci_1 rfl (by omega) (by omega) (fun _ => rfl) (fun z20 hz20 => ?_)
            refine h_goto (pc' := 79) rfl rfl ?_
            exact h_wk [(0, .ref 98), (1, .int x0), (2, .int x1), (3, .int z17), (4, .int y4), (5, .int y5), (6, .int z20)] ⟨rfl, rfl, rfl, rfl, rfl, rfl, rfl, trivial⟩ (ih.2 _ Is19 Fs19 z17 _ hz17 (by omega) y4 _ hy4 (by omega) y5 _ hy5 (by omega) z20 _ hz20 (by omega) (by omega) (fun j a b => ((Gs19.no (q := 99) (l := 176) (u := 219) (j := 176 + j) rfl (by omega) (by omega)).trans ((Gs9.no (q := 99) (l := 176) (u := 219) (j := 176 + j) rfl (by omega) (by omega)).trans ((Gs7.no (q := 99) (l := 176) (u := 219) (j := 176 + j) rfl (by omega) (by omega)).trans ((Gs5.no (q := 99) (l := 176) (u := 219) (j := 176 + j) rfl (by omega) (by omega)))))).trans (ex1 j a b)) (c_pg.all (fun j a b => ((ps19_0 j a b).trans ((Gs9.no (q := 99) (l := 176) (u := 219) (j := 176 + j) rfl (by omega) (by omega)).trans ((Gs7.no (q := 99) (l := 176) (u := 219) (j := 176 + j) rfl (by omega) (by omega)).trans ((Gs5.no (q := 99) (l := 176) (u := 219) (j := 176 + j) rfl (by omega) (by omega)))))).trans (ex1 j a b))) (by omega))
        · refine h_bipush (pc' := 118) (x := (Int32.ofInt 10)) rfl rfl cb_10 ?_
          refine h_iload (pc' := 120) rfl rfl rfl ?_
          refine h_imul (pc' := 121) rfl rfl ci_10 hy5 rfl (by omega) (by omega) (fun z21 hz21 => ?_)
          refine h_iload (pc' := 123) rfl rfl rfl ?_
          refine h_iadd (pc' := 124) rfl rfl hz21 hy6 rfl (by omega) (by omega) (fun z22 hz22 => ?_)
          refine h_goto (pc' := 129) rfl rfl ?_
          refine h_istore (pc' := 131) (M := [(4, .int z22), (0, .ref 98), (1, .int x0), (2, .int x1), (3, .int y3), (5, .int y5), (6, .int y6)]) rfl rfl rfl rfl ?_
          refine h_aload_n (pc' := 132) rfl rfl rfl ?_
          refine h_getI (pc' := 135) (v := s9 98 26) rfl rfl rfl rfl rfl rfl (fun z23 hz23 => ?_)
          have tz23 := tf_98_26 Is9
          refine h_iload_n (pc' := 136) rfl rfl rfl ?_
          refine h_cle (tg := 146) (pc' := 139) rfl rfl rfl hz23 hy3 (fun c24 => ?_) (fun c24 => ?_)
          · refine h_iload_n (pc' := 147) rfl rfl rfl ?_
            refine h_istore_n (pc' := 148) (M := [(3, .int y3), (4, .int z22), (0, .ref 98), (1, .int x0), (2, .int x1), (5, .int y5), (6, .int y6)]) rfl rfl rfl rfl ?_
            refine h_aload_n (pc' := 149) rfl rfl rfl ?_
            refine h_sipush (pc' := 152) (x := (Int32.ofInt 176)) rfl rfl cs_176 ?_
            refine h_iconst (pc' := 153) (x := (Int32.ofInt 0)) rfl rfl rfl ?_
            refine h_call (sp := false) (pc' := 156) (M := [(0, .ref 98), (1, .int (Int32.ofInt 176)), (2, .int (Int32.ofInt 0))]) rfl rfl rfl rfl rfl rfl rfl rfl ?_
            refine n_copies_176_0 _ Is9   (fun s26 Is26 Gs26 ps26_0 => h_Kn ?_)
            have Fs26 := (Gs26.mono (B := kf_n_match) rfl).tr Fs9
            have es26_0 : s26 98 13 = s0 98 13 := (Gs26 98 13 rfl).trans es9_0
            refine h_iinc (pc' := 159) (M := fun z27 => [(6, .int z27), (3, .int y3), (4, .int z22), (0, .ref 98), (1, .int x0), (2, .int x1), (5, .int y5)]) rfl rfl rfl rfl hy6 ci_1 rfl (by omega) (by omega) (fun _ => rfl) (fun z27 hz27 => ?_)
            refine h_goto (pc' := 79) rfl rfl ?_
            exact h_wk [(0, .ref 98), (1, .int x0), (2, .int x1), (3, .int y3), (4, .int z22), (5, .int y5), (6, .int z27)] ⟨rfl, rfl, rfl, rfl, rfl, rfl, rfl, trivial⟩ (ih.2 _ Is26 Fs26 y3 _ hy3 (by omega) z22 _ hz22 (by omega) y5 _ hy5 (by omega) z27 _ hz27 (by omega) (by omega) (fun j a b => ((Gs26.no (q := 99) (l := 176) (u := 219) (j := 176 + j) rfl (by omega) (by omega)).trans ((Gs9.no (q := 99) (l := 176) (u := 219) (j := 176 + j) rfl (by omega) (by omega)).trans ((Gs7.no (q := 99) (l := 176) (u := 219) (j := 176 + j) rfl (by omega) (by omega)).trans ((Gs5.no (q := 99) (l := 176) (u := 219) (j := 176 + j) rfl (by omega) (by omega)))))).trans (ex1 j a b)) (c_pg.all (fun j a b => ((ps26_0 j a b).trans ((Gs9.no (q := 99) (l := 176) (u := 219) (j := 176 + j) rfl (by omega) (by omega)).trans ((Gs7.no (q := 99) (l := 176) (u := 219) (j := 176 + j) rfl (by omega) (by omega)).trans ((Gs5.no (q := 99) (l := 176) (u := 219) (j := 176 + j) rfl (by omega) (by omega)))))).trans (ex1 j a b))) (by omega))
          · refine h_aload_n (pc' := 140) rfl rfl rfl ?_
            refine h_getI (pc' := 143) (v := s9 98 26) rfl rfl rfl rfl rfl rfl (fun z28 hz28 => ?_)
            have tz28 := tf_98_26 Is9
            refine h_goto (pc' := 147) rfl rfl ?_
            refine h_istore_n (pc' := 148) (M := [(3, .int z28), (4, .int z22), (0, .ref 98), (1, .int x0), (2, .int x1), (5, .int y5), (6, .int y6)]) rfl rfl rfl rfl ?_
            refine h_aload_n (pc' := 149) rfl rfl rfl ?_
            refine h_sipush (pc' := 152) (x := (Int32.ofInt 176)) rfl rfl cs_176 ?_
            refine h_iconst (pc' := 153) (x := (Int32.ofInt 0)) rfl rfl rfl ?_
            refine h_call (sp := false) (pc' := 156) (M := [(0, .ref 98), (1, .int (Int32.ofInt 176)), (2, .int (Int32.ofInt 0))]) rfl rfl rfl rfl rfl rfl rfl rfl ?_
            refine n_copies_176_0 _ Is9   (fun s30 Is30 Gs30 ps30_0 => h_Kn ?_)
            have Fs30 := (Gs30.mono (B := kf_n_match) rfl).tr Fs9
            have es30_0 : s30 98 13 = s0 98 13 := (Gs30 98 13 rfl).trans es9_0
            refine h_iinc (pc' := 159) (M := fun z31 => [(6, .int z31), (3, .int z28), (4, .int z22), (0, .ref 98), (1, .int x0), (2, .int x1), (5, .int y5)]) rfl rfl rfl rfl hy6 ci_1 rfl (by omega) (by omega) (fun _ => rfl) (fun z31 hz31 => ?_)
            refine h_goto (pc' := 79) rfl rfl ?_
            exact h_wk [(0, .ref 98), (1, .int x0), (2, .int x1), (3, .int z28), (4, .int z22), (5, .int y5), (6, .int z31)] ⟨rfl, rfl, rfl, rfl, rfl, rfl, rfl, trivial⟩ (ih.2 _ Is30 Fs30 z28 _ hz28 (by omega) z22 _ hz22 (by omega) y5 _ hy5 (by omega) z31 _ hz31 (by omega) (by omega) (fun j a b => ((Gs30.no (q := 99) (l := 176) (u := 219) (j := 176 + j) rfl (by omega) (by omega)).trans ((Gs9.no (q := 99) (l := 176) (u := 219) (j := 176 + j) rfl (by omega) (by omega)).trans ((Gs7.no (q := 99) (l := 176) (u := 219) (j := 176 + j) rfl (by omega) (by omega)).trans ((Gs5.no (q := 99) (l := 176) (u := 219) (j := 176 + j) rfl (by omega) (by omega)))))).trans (ex1 j a b)) (c_pg.all (fun j a b => ((ps30_0 j a b).trans ((Gs9.no (q := 99) (l := 176) (u := 219) (j := 176 + j) rfl (by omega) (by omega)).trans ((Gs7.no (q := 99) (l := 176) (u := 219) (j := 176 + j) rfl (by omega) (by omega)).trans ((Gs5.no (q := 99) (l := 176) (u := 219) (j := 176 + j) rfl (by omega) (by omega)))))).trans (ex1 j a b))) (by omega))
set_option maxHeartbeats 100000000 in
set_option maxHeartbeats 100000000 in
theorem n_match {ns : Nat} (σ : h_S) (hI : h_I σ) (x0 : Int32) (a0 : Int) (hx0 : x0.toInt = a0) (x1 : Int32) (a1 : Int) (hx1 : x1.toInt = a1) {Q : Option Value → h_S → Prop} (kk : ∀ (r : Int32) (b : Int) (hb : r.toInt = b) (τ : h_S), h_I τ → h_F (k_in kf_n_match) τ σ → ((-4) ≤ b ∧ b ≤ 63) → (c_pg true (fun j => σ 99 (0 + j)) (fun j => τ 99 (0 + j))) → Q (some (.int r)) τ) : h_T g_P (g_Y ns) 202 0 [(0, .ref 98), (1, .int x0), (2, .int x1)] [] σ Q := by
  have F00 : h_F (k_in kf_n_match) σ σ := h_F.rf
  refine h_aload_n (pc' := 1) rfl rfl rfl ?_
  refine h_iload_n (pc' := 2) rfl rfl rfl ?_
  refine h_call (sp := false) (pc' := 5) (M := [(0, .ref 98), (1, .int x0)]) rfl rfl rfl rfl rfl rfl rfl rfl ?_
  refine h_iload_n (pc' := 1) rfl rfl rfl ?_
  refine h_i2l (pc' := 2) rfl rfl hx0 (fun z1 hz1 => ?_)
  refine h_lconst (pc' := 3) (x := (Int64.ofInt 0)) rfl rfl rfl ?_
  refine h_aload_n (pc' := 4) rfl rfl rfl ?_
  refine h_getI (pc' := 7) (v := σ 98 2) rfl rfl rfl rfl rfl rfl (fun z2 hz2 => ?_)
  have tz2 := tf_98_2 hI
  refine h_iconst (pc' := 8) (x := (Int32.ofInt 1)) rfl rfl rfl ?_
  refine h_isub (pc' := 9) rfl rfl hz2 ci_1 rfl (by omega) (by omega) (fun z3 hz3 => ?_)
  refine h_i2l (pc' := 10) rfl rfl hz3 (fun z4 hz4 => ?_)
  refine h_calls (pc' := 13) (M := [(0, .long z1), (2, .long (Int64.ofInt 0)), (4, .long z4)]) rfl rfl rfl rfl rfl rfl ?_
  refine h_lload_n (pc' := 1) rfl rfl rfl ?_
  refine h_lload_n (pc' := 2) rfl rfl rfl ?_
  refine h_lcmp (pc' := 3) rfl rfl hz1 cl_0 (fun z5 hz5 => ?_)
  refine h_zlt (tg := 17) (pc' := 6) rfl rfl rfl rfl (fun c6 => ?_) (fun c6 => ?_)
  · replace c6 := (h_lcr hz5).1 c6
    clear hz5
    refine h_iconst (pc' := 18) (x := (Int32.ofInt 0)) rfl rfl rfl ?_
    refine h_zret rfl rfl ci_0 (by omega) (h_Kv ?_)
    refine h_zret rfl rfl ci_0 (by omega) (h_Kv ?_)
    refine h_zeq (tg := 18) (pc' := 8) rfl rfl rfl ci_0 (fun c7 => ?_) (fun c7 => absurd c7 (by omega))
    refine h_iconst (pc' := 19) (x := (Int32.ofInt (-1))) rfl rfl rfl ?_
    exact h_iret rfl rfl (kk _ _ ci_m1 _ hI F00 (by omega) c_pg.rf)
  · replace c6 := (h_lcr hz5).2.1 c6
    clear hz5
    refine h_lload_n (pc' := 7) rfl rfl rfl ?_
    refine h_lload (pc' := 9) rfl rfl rfl ?_
    refine h_lcmp (pc' := 10) rfl rfl hz1 hz4 (fun z8 hz8 => ?_)
    refine h_zgt (tg := 17) (pc' := 13) rfl rfl rfl rfl (fun c9 => ?_) (fun c9 => ?_)
    · replace c9 := (h_lcr hz8).2.2.2.1 c9
      clear hz8
      refine h_iconst (pc' := 18) (x := (Int32.ofInt 0)) rfl rfl rfl ?_
      refine h_zret rfl rfl ci_0 (by omega) (h_Kv ?_)
      refine h_zret rfl rfl ci_0 (by omega) (h_Kv ?_)
      refine h_zeq (tg := 18) (pc' := 8) rfl rfl rfl ci_0 (fun c10 => ?_) (fun c10 => absurd c10 (by omega))
      refine h_iconst (pc' := 19) (x := (Int32.ofInt (-1))) rfl rfl rfl ?_
      exact h_iret rfl rfl (kk _ _ ci_m1 _ hI F00 (by omega) c_pg.rf)
    · replace c9 := (h_lcr hz8).2.2.1 c9
      clear hz8
      refine h_iconst (pc' := 14) (x := (Int32.ofInt 1)) rfl rfl rfl ?_
      refine h_goto (pc' := 18) rfl rfl ?_
      refine h_zret rfl rfl ci_1 (by omega) (h_Kv ?_)
      refine h_zret rfl rfl ci_1 (by omega) (h_Kv ?_)
      refine h_zeq (tg := 18) (pc' := 8) rfl rfl rfl ci_1 (fun c11 => absurd c11 (by omega)) (fun c11 => ?_)
      refine h_iload_n (pc' := 9) rfl rfl rfl ?_
      refine h_i2l (pc' := 10) rfl rfl hx1 (fun z12 hz12 => ?_)
      refine h_lconst (pc' := 11) (x := (Int64.ofInt 0)) rfl rfl rfl ?_
      refine h_lconst (pc' := 12) (x := (Int64.ofInt 1)) rfl rfl rfl ?_
      refine h_calls (pc' := 15) (M := [(0, .long z12), (2, .long (Int64.ofInt 0)), (4, .long (Int64.ofInt 1))]) rfl rfl rfl rfl rfl rfl ?_
      refine h_lload_n (pc' := 1) rfl rfl rfl ?_
      refine h_lload_n (pc' := 2) rfl rfl rfl ?_
      refine h_lcmp (pc' := 3) rfl rfl hz12 cl_0 (fun z13 hz13 => ?_)
      refine h_zlt (tg := 17) (pc' := 6) rfl rfl rfl rfl (fun c14 => ?_) (fun c14 => ?_)
      · replace c14 := (h_lcr hz13).1 c14
        clear hz13
        refine h_iconst (pc' := 18) (x := (Int32.ofInt 0)) rfl rfl rfl ?_
        refine h_zret rfl rfl ci_0 (by omega) (h_Kv ?_)
        refine h_zne (tg := 20) (pc' := 18) rfl rfl rfl ci_0 (fun c15 => absurd c15 (by omega)) (fun c15 => ?_)
        refine h_iconst (pc' := 19) (x := (Int32.ofInt (-1))) rfl rfl rfl ?_
        exact h_iret rfl rfl (kk _ _ ci_m1 _ hI F00 (by omega) c_pg.rf)
      · replace c14 := (h_lcr hz13).2.1 c14
        clear hz13
        refine h_lload_n (pc' := 7) rfl rfl rfl ?_
        refine h_lload (pc' := 9) rfl rfl rfl ?_
        refine h_lcmp (pc' := 10) rfl rfl hz12 cl_1 (fun z16 hz16 => ?_)
        refine h_zgt (tg := 17) (pc' := 13) rfl rfl rfl rfl (fun c17 => ?_) (fun c17 => ?_)
        · replace c17 := (h_lcr hz16).2.2.2.1 c17
          clear hz16
          refine h_iconst (pc' := 18) (x := (Int32.ofInt 0)) rfl rfl rfl ?_
          refine h_zret rfl rfl ci_0 (by omega) (h_Kv ?_)
          refine h_zne (tg := 20) (pc' := 18) rfl rfl rfl ci_0 (fun c18 => absurd c18 (by omega)) (fun c18 => ?_)
          refine h_iconst (pc' := 19) (x := (Int32.ofInt (-1))) rfl rfl rfl ?_
          exact h_iret rfl rfl (kk _ _ ci_m1 _ hI F00 (by omega) c_pg.rf)
        · replace c17 := (h_lcr hz16).2.2.1 c17
          clear hz16
          refine h_iconst (pc' := 14) (x := (Int32.ofInt 1)) rfl rfl rfl ?_
          refine h_goto (pc' := 18) rfl rfl ?_
          refine h_zret rfl rfl ci_1 (by omega) (h_Kv ?_)
          refine h_zne (tg := 20) (pc' := 18) rfl rfl rfl ci_1 (fun c19 => ?_) (fun c19 => absurd c19 (by omega))
          refine h_aload_n (pc' := 21) rfl rfl rfl ?_
          refine h_getR (pc' := 24) rfl rfl rfl rfl rfl ?_
          refine h_bipush (pc' := 26) (x := (Int32.ofInt 18)) rfl rfl cb_18 ?_
          refine h_iald (pc' := 27) (v := σ 99 18) rfl rfl rfl ci_18 (by omega) (by omega) rfl (fun z20 hz20 => ?_)
          have tz20 := ty_99_3 hI 18 (by omega)
          refine h_iconst (pc' := 28) (x := (Int32.ofInt 3)) rfl rfl rfl ?_
          refine h_cne (tg := 34) (pc' := 31) rfl rfl rfl hz20 ci_3 (fun c21 => ?_) (fun c21 => ?_)
          · refine h_aload_n (pc' := 35) rfl rfl rfl ?_
            refine h_iconst (pc' := 36) (x := (Int32.ofInt 0)) rfl rfl rfl ?_
            refine h_call (sp := false) (pc' := 39) (M := [(0, .ref 98), (1, .int (Int32.ofInt 0))]) rfl rfl rfl rfl rfl rfl rfl rfl ?_
            refine w_162_98 _ hI (Int32.ofInt 0) _ ci_0 (by omega) (fun s23 Is23 Gs23 => h_Kn ?_)
            have Fs23 := (Gs23.mono (B := kf_n_match) rfl).tr F00
            have es23_0 : s23 98 13 = σ 98 13 := (Gs23 98 13 rfl).trans rfl
            refine h_aload_n (pc' := 40) rfl rfl rfl ?_
            refine h_iload_n (pc' := 41) rfl rfl rfl ?_
            refine h_call (sp := false) (pc' := 44) (M := [(0, .ref 98), (1, .int x0)]) rfl rfl rfl rfl rfl rfl rfl rfl ?_
            refine v_lines _ Is23 x0 _ hx0 (by omega) (fun s25 Is25 Gs25 => h_Kn ?_)
            have Fs25 := (Gs25.mono (B := kf_n_match) rfl).tr Fs23
            have es25_0 : s25 98 13 = σ 98 13 := (Gs25 98 13 rfl).trans es23_0
            clear es23_0
            refine h_aload_n (pc' := 45) rfl rfl rfl ?_
            refine h_getI (pc' := 48) (v := s25 98 26) rfl rfl rfl rfl rfl rfl (fun z26 hz26 => ?_)
            have tz26 := tf_98_26 Is25
            refine h_istore_n (pc' := 49) (M := [(3, .int z26), (0, .ref 98), (1, .int x0), (2, .int x1)]) rfl rfl rfl rfl ?_
            refine h_bipush (pc' := 51) (x := (Int32.ofInt (-4))) rfl rfl cb_m4 ?_
            refine h_istore (pc' := 53) (M := [(4, .int (Int32.ofInt (-4))), (3, .int z26), (0, .ref 98), (1, .int x0), (2, .int x1)]) rfl rfl rfl rfl ?_
            refine h_aload_n (pc' := 54) rfl rfl rfl ?_
            refine h_iconst (pc' := 55) (x := (Int32.ofInt 0)) rfl rfl rfl ?_
            refine h_sipush (pc' := 58) (x := (Int32.ofInt 176)) rfl rfl cs_176 ?_
            refine h_call (sp := false) (pc' := 61) (M := [(0, .ref 98), (1, .int (Int32.ofInt 0)), (2, .int (Int32.ofInt 176))]) rfl rfl rfl rfl rfl rfl rfl rfl ?_
            refine n_copies_0_176 _ Is25   (fun s28 Is28 Gs28 ps28_0 => h_Kn ?_)
            have Fs28 := (Gs28.mono (B := kf_n_match) rfl).tr Fs25
            have es28_0 : s28 98 13 = σ 98 13 := (Gs28 98 13 rfl).trans es25_0
            refine h_iconst (pc' := 62) (x := (Int32.ofInt 0)) rfl rfl rfl ?_
            refine h_istore (pc' := 64) (M := [(5, .int (Int32.ofInt 0)), (4, .int (Int32.ofInt (-4))), (3, .int z26), (0, .ref 98), (1, .int x0), (2, .int x1)]) rfl rfl rfl rfl ?_
            exact h_wk [(0, .ref 98), (1, .int x0), (2, .int x1), (3, .int z26), (4, .int (Int32.ofInt (-4))), (5, .int (Int32.ofInt 0))] ⟨rfl, rfl, rfl, rfl, rfl, rfl, trivial⟩ ((n_match_l ns σ hI x0 a0 hx0 x1 a1 hx1 kk 1000000000000).1 _ Is28 Fs28 z26 _ hz26 (by omega) (Int32.ofInt (-4)) _ ci_m4 (by omega) (Int32.ofInt 0) _ ci_0 (by omega) (by omega) (fun j a b => (ps28_0 j a b).trans ((Gs25.no (q := 99) (l := 0) (u := 43) (j := 0 + j) rfl (by omega) (by omega)).trans ((Gs23.no (q := 99) (l := 0) (u := 43) (j := 0 + j) rfl (by omega) (by omega))))) (((c_pg.fr (fl := true) Gs23 rfl).tr (c_pg.fr (fl := true) Gs25 rfl)).tr (c_pg.fr (fl := true) Gs28 rfl)) (by omega))
          · refine h_bipush (pc' := 33) (x := (Int32.ofInt (-3))) rfl rfl cb_m3 ?_
            exact h_iret rfl rfl (kk _ _ ci_m3 _ hI F00 (by omega) c_pg.rf)
