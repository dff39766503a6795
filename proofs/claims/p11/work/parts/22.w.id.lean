def kf_v_textM : List Nat := [100353, 100354, 100357, 100358, 100359, 100360, 100361, 100363, 100364, 100365, 100366, 100367, 100368, 100369, 100370, 100381, 101888, 104447, 113663]
set_option maxHeartbeats 100000000 in
theorem v_textM_l (ns : Nat) (σ : h_S) (hI : h_I σ) {Q : Option Value → h_S → Prop} (kk : ∀ (r : Int32) (b : Int) (hb : r.toInt = b) (τ : h_S), h_I τ → h_F (k_in kf_v_textM) τ σ → (τ 98 11 = 0) → (τ 64 1 = σ 64 1) → Q (some (.int r)) τ) : ∀ n : Nat, (∀ (s0 : h_S), h_I s0 → h_F (k_in kf_v_textM) s0 σ → ∀ (y1 : Int32) (b1 : Int), y1.toInt = b1 → (0 ≤ b1 ∧ b1 ≤ 0) → ∀ (y2 : Int32) (b2 : Int), y2.toInt = b2 → (0 ≤ b2 ∧ b2 ≤ 44) → (s0 64 1 = σ 64 1) → (45 - b2) + 1000000 ≤ (n : Int) → h_T g_P (g_Y ns) 155 39 [(0, .ref 98), (1, .int y1), (2, .int y2)] [] s0 Q) ∧ (∀ (s0 : h_S), h_I s0 → h_F (k_in kf_v_textM) s0 σ → ∀ (y1 : Int32) (b1 : Int), y1.toInt = b1 → ∀ (y2 : Int32) (b2 : Int), y2.toInt = b2 → (44 ≤ b2 ∧ b2 ≤ 44) → (s0 64 1 = σ 64 1) → (161 - s0 98 15) * 100 - s0 98 13 * 10 + s0 98 17 + 61 + 1000 ≤ (n : Int) → h_T g_P (g_Y ns) 155 62 [(0, .ref 98), (1, .int y1), (2, .int y2)] [] s0 Q) ∧ (∀ (s0 : h_S), h_I s0 → h_F (k_in kf_v_textM) s0 σ → ∀ (y1 : Int32) (b1 : Int), y1.toInt = b1 → ∀ (y2 : Int32) (b2 : Int), y2.toInt = b2 → (0 ≤ b2 ∧ b2 ≤ 44) → (s0 64 1 = σ 64 1) → (s0 98 11 = 0) → (45 - b2) ≤ (n : Int) → h_T g_P (g_Y ns) 155 151 [(0, .ref 98), (1, .int y1), (2, .int y2)] [] s0 Q) := by
  intro n
  induction n with
  | zero => exact ⟨by intro s0 I0 F0_ y1 b1 hy1 ry1 y2 b2 hy2 ry2 ex0 hm; have gh0 := tf_98_15 I0; have gh1 := tf_98_13 I0; have gh2 := tf_98_17 I0; exfalso; omega, by intro s0 I0 F0_ y1 b1 hy1 y2 b2 hy2 ry2 ex0 hm; have gh0 := tf_98_15 I0; have gh1 := tf_98_13 I0; have gh2 := tf_98_17 I0; exfalso; omega, by intro s0 I0 F0_ y1 b1 hy1 y2 b2 hy2 ry2 ex0 ex1 hm; have gh0 := tf_98_15 I0; have gh1 := tf_98_13 I0; have gh2 := tf_98_17 I0; exfalso; omega⟩
  | succ n ih =>
    refine ⟨?_, ?_, ?_⟩
    · intro s0 I0 F0_ y1 b1 hy1 ry1 y2 b2 hy2 ry2 ex0 hm; have gh0 := tf_98_15 I0; have gh1 := tf_98_13 I0; have gh2 := tf_98_17 I0
      refine h_iload_n (pc' := 40) rfl rfl rfl ?_
      refine h_bipush (pc' := 42) (x := (Int32.ofInt 44)) rfl rfl cb_44 ?_
      refine h_cge (tg := 58) (pc' := 45) rfl rfl rfl hy2 ci_44 (fun c1 => ?_) (fun c1 => ?_)
      · refine h_aload_n (pc' := 59) rfl rfl rfl ?_
        refine h_call (sp := false) (pc' := 62) (M := [(0, .ref 98)]) rfl rfl rfl rfl rfl rfl rfl rfl ?_
        refine v_step _ I0  (fun s3 Is3 Gs3 pcs3 => h_Kn ?_)
        have Fs3 := (Gs3.mono (B := kf_v_textM) rfl).tr F0_
        have es3_3 : s3 64 1 = s0 64 1 := (Gs3 64 1 rfl).trans rfl
        have es3_4 : s3 98 11 = s0 98 11 := (Gs3 98 11 rfl).trans rfl
        rcases pcs3 with pcs3 | pcs3 | pcs3 | pcs3
        · have ga0 := tf_98_17 Is3
          have ga1 := tf_98_13 Is3
          exact h_wk [(0, .ref 98), (1, .int y1), (2, .int y2)] ⟨rfl, rfl, rfl, trivial⟩ (ih.2.1 _ Is3 Fs3 y1 _ hy1 y2 _ hy2 (by omega) (by omega) (by omega))
        · have ga0 := tf_98_17 Is3
          have ga1 := tf_98_13 Is3
          exact h_wk [(0, .ref 98), (1, .int y1), (2, .int y2)] ⟨rfl, rfl, rfl, trivial⟩ (ih.2.1 _ Is3 Fs3 y1 _ hy1 y2 _ hy2 (by omega) (by omega) (by omega))
        · have ga0 := tf_98_17 Is3
          have ga1 := tf_98_13 Is3
          exact h_wk [(0, .ref 98), (1, .int y1), (2, .int y2)] ⟨rfl, rfl, rfl, trivial⟩ (ih.2.1 _ Is3 Fs3 y1 _ hy1 y2 _ hy2 (by omega) (by omega) (by omega))
        · have ga0 := tf_98_17 Is3
          have ga1 := tf_98_13 Is3
          exact h_wk [(0, .ref 98), (1, .int y1), (2, .int y2)] ⟨rfl, rfl, rfl, trivial⟩ (ih.2.1 _ Is3 Fs3 y1 _ hy1 y2 _ hy2 (by omega) (by omega) (by omega))
      · refine h_aload_n (pc' := 46) rfl rfl rfl ?_
        refine h_getR (pc' := 49) rfl rfl rfl rfl rfl ?_
        refine h_iload_n (pc' := 50) rfl rfl rfl ?_
        refine h_iconst (pc' := 51) (x := (Int32.ofInt 0)) rfl rfl rfl ?_
        refine h_iast (pc' := 52) rfl rfl rfl rfl hy2 (by omega) (by omega) ci_0 (h_fgt (E := fun s => s 98 15 = s0 98 15 ∧ s 98 17 = s0 98 17 ∧ s 98 13 = s0 98 13 ∧ s 64 1 = s0 64 1 ∧ s 98 11 = s0 98 11) _ (iz_101 I0) (F0_.up rfl) ⟨rfl, rfl, rfl, rfl, rfl⟩ (fun s4 Is4 Fs4 (es4 : s4 98 15 = s0 98 15 ∧ s4 98 17 = s0 98 17 ∧ s4 98 13 = s0 98 13 ∧ s4 64 1 = s0 64 1 ∧ s4 98 11 = s0 98 11) => ?_))
        refine h_iinc (pc' := 55) (M := fun z5 => [(2, .int z5), (0, .ref 98), (1, .int y1)]) rfl rfl rfl rfl hy2 ci_1 rfl (by omega) (by omega) (fun _ => rfl) (fun z5 hz5 => ?_)
        refine h_goto (pc' := 39) rfl rfl ?_
        have ga0 := tf_98_17 Is4
        have ga1 := tf_98_13 Is4
        exact h_wk [(0, .ref 98), (1, .int y1), (2, .int z5)] ⟨rfl, rfl, rfl, trivial⟩ (ih.1 _ Is4 Fs4 y1 _ hy1 (by omega) z5 _ hz5 (by omega) (by omega) (by omega))
    · intro s0 I0 F0_ y1 b1 hy1 y2 b2 hy2 ry2 ex0 hm; have gh0 := tf_98_15 I0; have gh1 := tf_98_13 I0; have gh2 := tf_98_17 I0
      refine h_aload_n (pc' := 63) rfl rfl rfl ?_
      refine h_getI (pc' := 66) (v := s0 98 13) rfl rfl rfl rfl rfl rfl (fun z1 hz1 => ?_)
      have tz1 := tf_98_13 I0
      refine h_zne (tg := 86) (pc' := 69) rfl rfl rfl hz1 (fun c2 => ?_) (fun c2 => ?_)
      · refine h_aload_n (pc' := 87) rfl rfl rfl ?_
        refine h_getI (pc' := 90) (v := s0 98 13) rfl rfl rfl rfl rfl rfl (fun z3 hz3 => ?_)
        have tz3 := tf_98_13 I0
        refine h_zne (tg := 121) (pc' := 93) rfl rfl rfl hz3 (fun c4 => ?_) (fun c4 => absurd c4 (by omega))
        refine h_aload_n (pc' := 122) rfl rfl rfl ?_
        refine h_iconst (pc' := 123) (x := (Int32.ofInt 0)) rfl rfl rfl ?_
        refine h_put (pc' := 126) rfl rfl rfl rfl rfl rfl ci_0 rfl (h_fgt (E := fun s => s 98 15 = s0 98 15 ∧ s 98 17 = s0 98 17 ∧ s 98 13 = s0 98 13 ∧ s 64 1 = s0 64 1 ∧ s 98 11 = 0) _ (if_98_11 I0 (by omega)) (F0_.up rfl) ⟨rfl, rfl, rfl, rfl, rfl⟩ (fun s5 Is5 Fs5 (es5 : s5 98 15 = s0 98 15 ∧ s5 98 17 = s0 98 17 ∧ s5 98 13 = s0 98 13 ∧ s5 64 1 = s0 64 1 ∧ s5 98 11 = 0) => ?_))
        refine h_aload_n (pc' := 127) rfl rfl rfl ?_
        refine h_aload_n (pc' := 128) rfl rfl rfl ?_
        refine h_getI (pc' := 131) (v := s0 98 13) rfl rfl rfl rfl rfl es5.2.2.1 (fun z6 hz6 => ?_)
        have tz6 := tf_98_13 I0
        refine h_put (pc' := 134) rfl rfl rfl rfl rfl rfl hz6 rfl (h_fgt (E := fun s => s 98 15 = s0 98 15 ∧ s 98 17 = s0 98 17 ∧ s 98 13 = s0 98 13 ∧ s 64 1 = s0 64 1 ∧ s 98 11 = 0) _ (if_98_12 Is5 (h_rgv hz6)) (Fs5.up rfl) ⟨es5.1, es5.2.1, es5.2.2.1, es5.2.2.2.1, es5.2.2.2.2⟩ (fun s7 Is7 Fs7 (es7 : s7 98 15 = s0 98 15 ∧ s7 98 17 = s0 98 17 ∧ s7 98 13 = s0 98 13 ∧ s7 64 1 = s0 64 1 ∧ s7 98 11 = 0) => ?_))
        clear es5
        refine h_aload_n (pc' := 135) rfl rfl rfl ?_
        refine h_getI (pc' := 138) (v := s0 98 13) rfl rfl rfl rfl rfl es7.2.2.1 (fun z8 hz8 => ?_)
        have tz8 := tf_98_13 I0
        refine h_zle (tg := 149) (pc' := 141) rfl rfl rfl hz8 (fun c9 => absurd c9 (by omega)) (fun c9 => ?_)
        refine h_bipush (pc' := 143) (x := (Int32.ofInt (-10))) rfl rfl cb_m10 ?_
        refine h_aload_n (pc' := 144) rfl rfl rfl ?_
        refine h_getI (pc' := 147) (v := s7 98 14) rfl rfl rfl rfl rfl rfl (fun z10 hz10 => ?_)
        have tz10 := tf_98_14 Is7
        refine h_isubA (pc' := 148) rfl rfl (fun z11 hz11 => ?_)
        exact h_iret rfl rfl (kk _ _ rfl _ Is7 Fs7 (by omega) (by omega))
      · refine h_aload_n (pc' := 70) rfl rfl rfl ?_
        refine h_getI (pc' := 73) (v := s0 98 17) rfl rfl rfl rfl rfl rfl (fun z12 hz12 => ?_)
        have tz12 := tf_98_17 I0
        refine h_zeq (tg := 86) (pc' := 76) rfl rfl rfl hz12 (fun c13 => ?_) (fun c13 => ?_)
        · refine h_aload_n (pc' := 87) rfl rfl rfl ?_
          refine h_getI (pc' := 90) (v := s0 98 13) rfl rfl rfl rfl rfl rfl (fun z14 hz14 => ?_)
          have tz14 := tf_98_13 I0
          refine h_zne (tg := 121) (pc' := 93) rfl rfl rfl hz14 (fun c15 => absurd c15 (by omega)) (fun c15 => ?_)
          refine h_aload_n (pc' := 94) rfl rfl rfl ?_
          refine h_getI (pc' := 97) (v := s0 98 8) rfl rfl rfl rfl rfl rfl (fun z16 hz16 => ?_)
          have tz16 := tf_98_8 I0
          refine h_aload_n (pc' := 98) rfl rfl rfl ?_
          refine h_getI (pc' := 101) (v := s0 98 5) rfl rfl rfl rfl rfl rfl (fun z17 hz17 => ?_)
          have tz17 := tf_98_5 I0
          refine h_cge (tg := 115) (pc' := 104) rfl rfl rfl hz16 hz17 (fun c18 => ?_) (fun c18 => ?_)
          · refine h_aload_n (pc' := 116) rfl rfl rfl ?_
            refine h_bipush (pc' := 118) (x := (Int32.ofInt 6)) rfl rfl cb_6 ?_
            refine h_call (sp := false) (pc' := 121) (M := [(0, .ref 98), (1, .int (Int32.ofInt 6))]) rfl rfl rfl rfl rfl rfl rfl rfl ?_
            refine h_aload_n (pc' := 1) rfl rfl rfl ?_
            refine h_getI (pc' := 4) (v := s0 98 13) rfl rfl rfl rfl rfl rfl (fun z19 hz19 => ?_)
            have tz19 := tf_98_13 I0
            refine h_zne (tg := 20) (pc' := 7) rfl rfl rfl hz19 (fun c20 => absurd c20 (by omega)) (fun c20 => ?_)
            refine h_aload_n (pc' := 8) rfl rfl rfl ?_
            refine h_iload_n (pc' := 9) rfl rfl rfl ?_
            refine h_put (pc' := 12) rfl rfl rfl rfl rfl rfl ci_6 rfl (h_fgt (E := fun s => s 98 15 = s0 98 15 ∧ s 98 17 = s0 98 17 ∧ s 98 13 = 6 ∧ s 64 1 = s0 64 1 ∧ s 98 11 = s0 98 11) _ (if_98_13 I0 (by omega)) (F0_.up rfl) ⟨rfl, rfl, rfl, rfl, rfl⟩ (fun s21 Is21 Fs21 (es21 : s21 98 15 = s0 98 15 ∧ s21 98 17 = s0 98 17 ∧ s21 98 13 = 6 ∧ s21 64 1 = s0 64 1 ∧ s21 98 11 = s0 98 11) => ?_))
            refine h_aload_n (pc' := 13) rfl rfl rfl ?_
            refine h_aload_n (pc' := 14) rfl rfl rfl ?_
            refine h_getI (pc' := 17) (v := s21 98 16) rfl rfl rfl rfl rfl rfl (fun z22 hz22 => ?_)
            have tz22 := tf_98_16 Is21
            refine h_put (pc' := 20) rfl rfl rfl rfl rfl rfl hz22 rfl (h_fgt (E := fun s => s 98 15 = s0 98 15 ∧ s 98 17 = s0 98 17 ∧ s 98 13 = 6 ∧ s 64 1 = s0 64 1 ∧ s 98 11 = s0 98 11) _ (if_98_14 Is21 (h_rgv hz22)) (Fs21.up rfl) ⟨es21.1, es21.2.1, es21.2.2.1, es21.2.2.2.1, es21.2.2.2.2⟩ (fun s23 Is23 Fs23 (es23 : s23 98 15 = s0 98 15 ∧ s23 98 17 = s0 98 17 ∧ s23 98 13 = 6 ∧ s23 64 1 = s0 64 1 ∧ s23 98 11 = s0 98 11) => ?_))
            clear es21
            refine h_vret rfl rfl (h_Kn ?_)
            refine h_aload_n (pc' := 122) rfl rfl rfl ?_
            refine h_iconst (pc' := 123) (x := (Int32.ofInt 0)) rfl rfl rfl ?_
            refine h_put (pc' := 126) rfl rfl rfl rfl rfl rfl ci_0 rfl (h_fgt (E := fun s => s 98 15 = s0 98 15 ∧ s 98 17 = s0 98 17 ∧ s 98 13 = 6 ∧ s 64 1 = s0 64 1 ∧ s 98 11 = 0) _ (if_98_11 Is23 (by omega)) (Fs23.up rfl) ⟨es23.1, es23.2.1, es23.2.2.1, es23.2.2.2.1, rfl⟩ (fun s24 Is24 Fs24 (es24 : s24 98 15 = s0 98 15 ∧ s24 98 17 = s0 98 17 ∧ s24 98 13 = 6 ∧ s24 64 1 = s0 64 1 ∧ s24 98 11 = 0) => ?_))
            clear es23
            refine h_aload_n (pc' := 127) rfl rfl rfl ?_
            refine h_aload_n (pc' := 128) rfl rfl rfl ?_
            refine h_getI (pc' := 131) (v := 6) rfl rfl rfl rfl rfl es24.2.2.1 (fun z25 hz25 => ?_)
            refine h_put (pc' := 134) rfl rfl rfl rfl rfl rfl hz25 rfl (h_fgt (E := fun s => s 98 15 = s0 98 15 ∧ s 98 17 = s0 98 17 ∧ s 98 13 = 6 ∧ s 64 1 = s0 64 1 ∧ s 98 11 = 0) _ (if_98_12 Is24 (h_rgv hz25)) (Fs24.up rfl) ⟨es24.1, es24.2.1, es24.2.2.1, es24.2.2.2.1, es24.2.2.2.2⟩ (fun s26 Is26 Fs26 (es26 : s26 98 15 = s0 98 15 ∧ s26 98 17 = s0 98 17 ∧ s26 98 13 = 6 ∧ s26 64 1 = s0 64 1 ∧ s26 98 11 = 0) => ?_))
            clear es24
            refine h_aload_n (pc' := 135) rfl rfl rfl ?_
            refine h_getI (pc' := 138) (v := 6) rfl rfl rfl rfl rfl es26.2.2.1 (fun z27 hz27 => ?_)
            refine h_zle (tg := 149) (pc' := 141) rfl rfl rfl hz27 (fun c28 => absurd c28 (by omega)) (fun c28 => ?_)
            refine h_bipush (pc' := 143) (x := (Int32.ofInt (-10))) rfl rfl cb_m10 ?_
            refine h_aload_n (pc' := 144) rfl rfl rfl ?_
            refine h_getI (pc' := 147) (v := s26 98 14) rfl rfl rfl rfl rfl rfl (fun z29 hz29 => ?_)
            have tz29 := tf_98_14 Is26
            refine h_isubA (pc' := 148) rfl rfl (fun z30 hz30 => ?_)
            exact h_iret rfl rfl (kk _ _ rfl _ Is26 Fs26 (by omega) (by omega))
          · refine h_aload_n (pc' := 105) rfl rfl rfl ?_
            refine h_getI (pc' := 108) (v := s0 98 9) rfl rfl rfl rfl rfl rfl (fun z31 hz31 => ?_)
            have tz31 := tf_98_9 I0
            refine h_aload_n (pc' := 109) rfl rfl rfl ?_
            refine h_getI (pc' := 112) (v := s0 98 6) rfl rfl rfl rfl rfl rfl (fun z32 hz32 => ?_)
            have tz32 := tf_98_6 I0
            refine h_clt (tg := 121) (pc' := 115) rfl rfl rfl hz31 hz32 (fun c33 => ?_) (fun c33 => ?_)
            · refine h_aload_n (pc' := 122) rfl rfl rfl ?_
              refine h_iconst (pc' := 123) (x := (Int32.ofInt 0)) rfl rfl rfl ?_
              refine h_put (pc' := 126) rfl rfl rfl rfl rfl rfl ci_0 rfl (h_fgt (E := fun s => s 98 15 = s0 98 15 ∧ s 98 17 = s0 98 17 ∧ s 98 13 = s0 98 13 ∧ s 64 1 = s0 64 1 ∧ s 98 11 = 0) _ (if_98_11 I0 (by omega)) (F0_.up rfl) ⟨rfl, rfl, rfl, rfl, rfl⟩ (fun s34 Is34 Fs34 (es34 : s34 98 15 = s0 98 15 ∧ s34 98 17 = s0 98 17 ∧ s34 98 13 = s0 98 13 ∧ s34 64 1 = s0 64 1 ∧ s34 98 11 = 0) => ?_))
              refine h_aload_n (pc' := 127) rfl rfl rfl ?_
              refine h_aload_n (pc' := 128) rfl rfl rfl ?_
              refine h_getI (pc' := 131) (v := s0 98 13) rfl rfl rfl rfl rfl es34.2.2.1 (fun z35 hz35 => ?_)
              have tz35 := tf_98_13 I0
              refine h_put (pc' := 134) rfl rfl rfl rfl rfl rfl hz35 rfl (h_fgt (E := fun s => s 98 15 = s0 98 15 ∧ s 98 17 = s0 98 17 ∧ s 98 13 = s0 98 13 ∧ s 64 1 = s0 64 1 ∧ s 98 11 = 0) _ (if_98_12 Is34 (h_rgv hz35)) (Fs34.up rfl) ⟨es34.1, es34.2.1, es34.2.2.1, es34.2.2.2.1, es34.2.2.2.2⟩ (fun s36 Is36 Fs36 (es36 : s36 98 15 = s0 98 15 ∧ s36 98 17 = s0 98 17 ∧ s36 98 13 = s0 98 13 ∧ s36 64 1 = s0 64 1 ∧ s36 98 11 = 0) => ?_))
              clear es34
              refine h_aload_n (pc' := 135) rfl rfl rfl ?_
              refine h_getI (pc' := 138) (v := s0 98 13) rfl rfl rfl rfl rfl es36.2.2.1 (fun z37 hz37 => ?_)
              have tz37 := tf_98_13 I0
              refine h_zle (tg := 149) (pc' := 141) rfl rfl rfl hz37 (fun c38 => ?_) (fun c38 => absurd c38 (by omega))
              refine h_iconst (pc' := 150) (x := (Int32.ofInt 0)) rfl rfl rfl ?_
              refine h_istore_n (pc' := 151) (M := [(2, .int (Int32.ofInt 0)), (0, .ref 98), (1, .int y1)]) rfl rfl rfl rfl ?_
              have ga0 := tf_98_17 Is36
              have ga1 := tf_98_13 Is36
              exact h_wk [(0, .ref 98), (1, .int y1), (2, .int (Int32.ofInt 0))] ⟨rfl, rfl, rfl, trivial⟩ (ih.2.2 _ Is36 Fs36 y1 _ hy1 (Int32.ofInt 0) _ ci_0 (by omega) (by omega) (by omega) (by omega))
            · refine h_aload_n (pc' := 116) rfl rfl rfl ?_
              refine h_bipush (pc' := 118) (x := (Int32.ofInt 6)) rfl rfl cb_6 ?_
              refine h_call (sp := false) (pc' := 121) (M := [(0, .ref 98), (1, .int (Int32.ofInt 6))]) rfl rfl rfl rfl rfl rfl rfl rfl ?_
              refine h_aload_n (pc' := 1) rfl rfl rfl ?_
              refine h_getI (pc' := 4) (v := s0 98 13) rfl rfl rfl rfl rfl rfl (fun z39 hz39 => ?_)
              have tz39 := tf_98_13 I0
              refine h_zne (tg := 20) (pc' := 7) rfl rfl rfl hz39 (fun c40 => absurd c40 (by omega)) (fun c40 => ?_)
              refine h_aload_n (pc' := 8) rfl rfl rfl ?_
              refine h_iload_n (pc' := 9) rfl rfl rfl ?_
              refine h_put (pc' := 12) rfl rfl rfl rfl rfl rfl ci_6 rfl (h_fgt (E := fun s => s 98 15 = s0 98 15 ∧ s 98 17 = s0 98 17 ∧ s 98 13 = 6 ∧ s 64 1 = s0 64 1 ∧ s 98 11 = s0 98 11) _ (if_98_13 I0 (by omega)) (F0_.up rfl) ⟨rfl, rfl, rfl, rfl, rfl⟩ (fun s41 Is41 Fs41 (es41 : s41 98 15 = s0 98 15 ∧ s41 98 17 = s0 98 17 ∧ s41 98 13 = 6 ∧ s41 64 1 = s0 64 1 ∧ s41 98 11 = s0 98 11) => ?_))
              refine h_aload_n (pc' := 13) rfl rfl rfl ?_
              refine h_aload_n (pc' := 14) rfl rfl rfl ?_
              refine h_getI (pc' := 17) (v := s41 98 16) rfl rfl rfl rfl rfl rfl (fun z42 hz42 => ?_)
              have tz42 := tf_98_16 Is41
              refine h_put (pc' := 20) rfl rfl rfl rfl rfl rfl hz42 rfl (h_fgt (E := fun s => s 98 15 = s0 98 15 ∧ s 98 17 = s0 98 17 ∧ s 98 13 = 6 ∧ s 64 1 = s0 64 1 ∧ s 98 11 = s0 98 11) _ (if_98_14 Is41 (h_rgv hz42)) (Fs41.up rfl) ⟨es41.1, es41.2.1, es41.2.2.1, es41.2.2.2.1, es41.2.2.2.2⟩ (fun s43 Is43 Fs43 (es43 : s43 98 15 = s0 98 15 ∧ s43 98 17 = s0 98 17 ∧ s43 98 13 = 6 ∧ s43 64 1 = s0 64 1 ∧ s43 98 11 = s0 98 11) => ?_))
              clear es41
              refine h_vret rfl rfl (h_Kn ?_)
              refine h_aload_n (pc' := 122) rfl rfl rfl ?_
              refine h_iconst (pc' := 123) (x := (Int32.ofInt 0)) rfl rfl rfl ?_
              refine h_put (pc' := 126) rfl rfl rfl rfl rfl rfl ci_0 rfl (h_fgt (E := fun s => s 98 15 = s0 98 15 ∧ s 98 17 = s0 98 17 ∧ s 98 13 = 6 ∧ s 64 1 = s0 64 1 ∧ s 98 11 = 0) _ (if_98_11 Is43 (by omega)) (Fs43.up rfl) ⟨es43.1, es43.2.1, es43.2.2.1, es43.2.2.2.1, rfl⟩ (fun s44 Is44 Fs44 (es44 : s44 98 15 = s0 98 15 ∧ s44 98 17 = s0 98 17 ∧ s44 98 13 = 6 ∧ s44 64 1 = s0 64 1 ∧ s44 98 11 = 0) => ?_))
              clear es43
              refine h_aload_n (pc' := 127) rfl rfl rfl ?_
              refine h_aload_n (pc' := 128) rfl rfl rfl ?_
              refine h_getI (pc' := 131) (v := 6) rfl rfl rfl rfl rfl es44.2.2.1 (fun z45 hz45 => ?_)
              refine h_put (pc' := 134) rfl rfl rfl rfl rfl rfl hz45 rfl (h_fgt (E := fun s => s 98 15 = s0 98 15 ∧ s 98 17 = s0 98 17 ∧ s 98 13 = 6 ∧ s 64 1 = s0 64 1 ∧ s 98 11 = 0) _ (if_98_12 Is44 (h_rgv hz45)) (Fs44.up rfl) ⟨es44.1, es44.2.1, es44.2.2.1, es44.2.2.2.1, es44.2.2.2.2⟩ (fun s46 Is46 Fs46 (es46 : s46 98 15 = s0 98 15 ∧ s46 98 17 = s0 98 17 ∧ s46 98 13 = 6 ∧ s46 64 1 = s0 64 1 ∧ s46 98 11 = 0) => ?_))
              clear es44
              refine h_aload_n (pc' := 135) rfl rfl rfl ?_
              refine h_getI (pc' := 138) (v := 6) rfl rfl rfl rfl rfl es46.2.2.1 (fun z47 hz47 => ?_)
              refine h_zle (tg := 149) (pc' := 141) rfl rfl rfl hz47 (fun c48 => absurd c48 (by omega)) (fun c48 => ?_)
              refine h_bipush (pc' := 143) (x := (Int32.ofInt (-10))) rfl rfl cb_m10 ?_
              refine h_aload_n (pc' := 144) rfl rfl rfl ?_
              refine h_getI (pc' := 147) (v := s46 98 14) rfl rfl rfl rfl rfl rfl (fun z49 hz49 => ?_)
              have tz49 := tf_98_14 Is46
              refine h_isubA (pc' := 148) rfl rfl (fun z50 hz50 => ?_)
              exact h_iret rfl rfl (kk _ _ rfl _ Is46 Fs46 (by omega) (by omega))
        · refine h_aload_n (pc' := 77) rfl rfl rfl ?_
          refine h_call (sp := false) (pc' := 80) (M := [(0, .ref 98)]) rfl rfl rfl rfl rfl rfl rfl rfl ?_
          refine v_readLine _ I0  (by omega) (fun s52 Is52 Gs52 pcs52 => h_Kn ?_)
          have Fs52 := (Gs52.mono (B := kf_v_textM) rfl).tr F0_
          have es52_3 : s52 64 1 = s0 64 1 := (Gs52 64 1 rfl).trans rfl
          have es52_4 : s52 98 11 = s0 98 11 := (Gs52 98 11 rfl).trans rfl
          rcases pcs52 with pcs52 | pcs52 | pcs52
          · refine h_iincA (pc' := 83) (M := fun z53 => [(1, .int z53), (0, .ref 98), (2, .int y2)]) rfl rfl rfl rfl (fun _ => rfl) (fun z53 hz53 => ?_)
            refine h_goto (pc' := 62) rfl rfl ?_
            have ga0 := tf_98_17 Is52
            have ga1 := tf_98_13 Is52
            exact h_wk [(0, .ref 98), (1, .int z53), (2, .int y2)] ⟨rfl, rfl, rfl, trivial⟩ (ih.2.1 _ Is52 Fs52 z53 _ rfl y2 _ hy2 (by omega) (by omega) (by omega))
          · refine h_iincA (pc' := 83) (M := fun z54 => [(1, .int z54), (0, .ref 98), (2, .int y2)]) rfl rfl rfl rfl (fun _ => rfl) (fun z54 hz54 => ?_)
            refine h_goto (pc' := 62) rfl rfl ?_
            have ga0 := tf_98_17 Is52
            have ga1 := tf_98_13 Is52
            exact h_wk [(0, .ref 98), (1, .int z54), (2, .int y2)] ⟨rfl, rfl, rfl, trivial⟩ (ih.2.1 _ Is52 Fs52 z54 _ rfl y2 _ hy2 (by omega) (by omega) (by omega))
          · refine h_iincA (pc' := 83) (M := fun z55 => [(1, .int z55), (0, .ref 98), (2, .int y2)]) rfl rfl rfl rfl (fun _ => rfl) (fun z55 hz55 => ?_)
            refine h_goto (pc' := 62) rfl rfl ?_
            have ga0 := tf_98_17 Is52
            have ga1 := tf_98_13 Is52
            exact h_wk [(0, .ref 98), (1, .int z55), (2, .int y2)] ⟨rfl, rfl, rfl, trivial⟩ (ih.2.1 _ Is52 Fs52 z55 _ rfl y2 _ hy2 (by omega) (by omega) (by omega))
    · intro s0 I0 F0_ y1 b1 hy1 y2 b2 hy2 ry2 ex0 ex1 hm; have gh0 := tf_98_15 I0; have gh1 := tf_98_13 I0; have gh2 := tf_98_17 I0
      refine h_iload_n (pc' := 152) rfl rfl rfl ?_
      refine h_bipush (pc' := 154) (x := (Int32.ofInt 44)) rfl rfl cb_44 ?_
      refine h_cge (tg := 175) (pc' := 157) rfl rfl rfl hy2 ci_44 (fun c1 => ?_) (fun c1 => ?_)
      · refine h_aload_n (pc' := 176) rfl rfl rfl ?_
        refine h_aload_n (pc' := 177) rfl rfl rfl ?_
        refine h_getI (pc' := 180) (v := s0 98 5) rfl rfl rfl rfl rfl rfl (fun z2 hz2 => ?_)
        have tz2 := tf_98_5 I0
        refine h_put (pc' := 183) rfl rfl rfl rfl rfl rfl hz2 rfl (h_fgt (E := fun s => s 98 15 = s0 98 15 ∧ s 98 17 = s0 98 17 ∧ s 98 13 = s0 98 13 ∧ s 64 1 = s0 64 1 ∧ s 98 11 = s0 98 11) _ (if_98_1 I0 (by omega)) (F0_.up rfl) ⟨rfl, rfl, rfl, rfl, rfl⟩ (fun s3 Is3 Fs3 (es3 : s3 98 15 = s0 98 15 ∧ s3 98 17 = s0 98 17 ∧ s3 98 13 = s0 98 13 ∧ s3 64 1 = s0 64 1 ∧ s3 98 11 = s0 98 11) => ?_))
        refine h_aload_n (pc' := 184) rfl rfl rfl ?_
        refine h_aload_n (pc' := 185) rfl rfl rfl ?_
        refine h_getI (pc' := 188) (v := s3 98 6) rfl rfl rfl rfl rfl rfl (fun z4 hz4 => ?_)
        have tz4 := tf_98_6 Is3
        refine h_put (pc' := 191) rfl rfl rfl rfl rfl rfl hz4 rfl (h_fgt (E := fun s => s 98 15 = s0 98 15 ∧ s 98 17 = s0 98 17 ∧ s 98 13 = s0 98 13 ∧ s 64 1 = s0 64 1 ∧ s 98 11 = s0 98 11) _ (if_98_2 Is3 (by omega)) (Fs3.up rfl) ⟨es3.1, es3.2.1, es3.2.2.1, es3.2.2.2.1, es3.2.2.2.2⟩ (fun s5 Is5 Fs5 (es5 : s5 98 15 = s0 98 15 ∧ s5 98 17 = s0 98 17 ∧ s5 98 13 = s0 98 13 ∧ s5 64 1 = s0 64 1 ∧ s5 98 11 = s0 98 11) => ?_))
        clear es3
        refine h_aload_n (pc' := 192) rfl rfl rfl ?_
        refine h_iconst (pc' := 193) (x := (Int32.ofInt 0)) rfl rfl rfl ?_
        refine h_put (pc' := 196) rfl rfl rfl rfl rfl rfl ci_0 rfl (h_fgt (E := fun s => s 98 15 = s0 98 15 ∧ s 98 17 = s0 98 17 ∧ s 98 13 = s0 98 13 ∧ s 64 1 = s0 64 1 ∧ s 98 11 = s0 98 11) _ (if_98_29 Is5 (by omega)) (Fs5.up rfl) ⟨es5.1, es5.2.1, es5.2.2.1, es5.2.2.2.1, es5.2.2.2.2⟩ (fun s6 Is6 Fs6 (es6 : s6 98 15 = s0 98 15 ∧ s6 98 17 = s0 98 17 ∧ s6 98 13 = s0 98 13 ∧ s6 64 1 = s0 64 1 ∧ s6 98 11 = s0 98 11) => ?_))
        clear es5
        refine h_aload_n (pc' := 197) rfl rfl rfl ?_
        refine h_getR (pc' := 200) rfl rfl rfl rfl rfl ?_
        refine h_iconst (pc' := 201) (x := (Int32.ofInt 0)) rfl rfl rfl ?_
        refine h_iconst (pc' := 202) (x := (Int32.ofInt 0)) rfl rfl rfl ?_
        refine h_bast (pc' := 203) rfl rfl rfl rfl ci_0 (by omega) (by omega) ci_0 (by omega) (h_fgt (E := fun s => s 98 15 = s0 98 15 ∧ s 98 17 = s0 98 17 ∧ s 98 13 = s0 98 13 ∧ s 64 1 = s0 64 1 ∧ s 98 11 = s0 98 11) _ (in_110 Is6 (by omega)) (Fs6.up rfl) ⟨es6.1, es6.2.1, es6.2.2.1, es6.2.2.2.1, es6.2.2.2.2⟩ (fun s7 Is7 Fs7 (es7 : s7 98 15 = s0 98 15 ∧ s7 98 17 = s0 98 17 ∧ s7 98 13 = s0 98 13 ∧ s7 64 1 = s0 64 1 ∧ s7 98 11 = s0 98 11) => ?_))
        clear es6
        refine h_aload_n (pc' := 204) rfl rfl rfl ?_
        refine h_getR (pc' := 207) rfl rfl rfl rfl rfl ?_
        refine h_iconst (pc' := 208) (x := (Int32.ofInt 1)) rfl rfl rfl ?_
        refine h_iconst (pc' := 209) (x := (Int32.ofInt 0)) rfl rfl rfl ?_
        refine h_bast (pc' := 210) rfl rfl rfl rfl ci_1 (by omega) (by omega) ci_0 (by omega) (h_fgt (E := fun s => s 98 15 = s0 98 15 ∧ s 98 17 = s0 98 17 ∧ s 98 13 = s0 98 13 ∧ s 64 1 = s0 64 1 ∧ s 98 11 = s0 98 11) _ (in_110 Is7 (by omega)) (Fs7.up rfl) ⟨es7.1, es7.2.1, es7.2.2.1, es7.2.2.2.1, es7.2.2.2.2⟩ (fun s8 Is8 Fs8 (es8 : s8 98 15 = s0 98 15 ∧ s8 98 17 = s0 98 17 ∧ s8 98 13 = s0 98 13 ∧ s8 64 1 = s0 64 1 ∧ s8 98 11 = s0 98 11) => ?_))
        clear es7
        refine h_iload_n (pc' := 211) rfl rfl rfl ?_
        exact h_iret rfl rfl (kk _ _ hy1 _ Is8 Fs8 (by omega) (by omega))
      · refine h_aload_n (pc' := 158) rfl rfl rfl ?_
        refine h_getR (pc' := 161) rfl rfl rfl rfl rfl ?_
        refine h_iload_n (pc' := 162) rfl rfl rfl ?_
        refine h_aload_n (pc' := 163) rfl rfl rfl ?_
        refine h_getR (pc' := 166) rfl rfl rfl rfl rfl ?_
        refine h_iload_n (pc' := 167) rfl rfl rfl ?_
        refine h_iald (pc' := 168) (v := s0 101 b2) rfl rfl rfl hy2 (by omega) (by omega) rfl (fun z9 hz9 => ?_)
        have tz9 := h_rng z9
        rw [hz9] at tz9
        refine h_iast (pc' := 169) rfl rfl rfl rfl hy2 (by omega) (by omega) hz9 (h_fgt (E := fun s => s 98 15 = s0 98 15 ∧ s 98 17 = s0 98 17 ∧ s 98 13 = s0 98 13 ∧ s 64 1 = s0 64 1 ∧ s 98 11 = s0 98 11) _ (im_99 (i := b2) I0 (by omega) (I0 101 b2)) (F0_.up (k_ipg (p := 0) rfl rfl (by omega))) ⟨rfl, rfl, rfl, rfl, rfl⟩ (fun s10 Is10 Fs10 (es10 : s10 98 15 = s0 98 15 ∧ s10 98 17 = s0 98 17 ∧ s10 98 13 = s0 98 13 ∧ s10 64 1 = s0 64 1 ∧ s10 98 11 = s0 98 11) => ?_))
        refine h_iinc (pc' := 172) (M := fun z11 => [(2, .int z11), (0, .ref 98), (1, .int y1)]) rfl rfl rfl rfl hy2 ci_1 rfl (by omega) (by omega) (fun _ => rfl) (fun z11 hz11 => ?_)
        refine h_goto (pc' := 151) rfl rfl ?_
        have ga0 := tf_98_17 Is10
        have ga1 := tf_98_13 Is10
        exact h_wk [(0, .ref 98), (1, .int y1), (2, .int z11)] ⟨rfl, rfl, rfl, trivial⟩ (ih.2.2 _ Is10 Fs10 y1 _ hy1 z11 _ hz11 (by omega) (by omega) (by omega) (by omega))
set_option maxHeartbeats 100000000 in
theorem v_textM {ns : Nat} (σ : h_S) (hI : h_I σ) {Q : Option Value → h_S → Prop} (kk : ∀ (r : Int32) (b : Int) (hb : r.toInt = b) (τ : h_S), h_I τ → h_F (k_in kf_v_textM) τ σ → (τ 98 11 = 0) → (τ 64 1 = σ 64 1) → Q (some (.int r)) τ) : h_T g_P (g_Y ns) 155 0 [(0, .ref 98)] [] σ Q := by
  have F00 : h_F (k_in kf_v_textM) σ σ := h_F.rf
  have ge0 := tf_98_15 hI
  have ge1 := tf_98_13 hI
  have ge2 := tf_98_17 hI
  refine h_aload_n (pc' := 1) rfl rfl rfl ?_
  refine h_iconst (pc' := 2) (x := (Int32.ofInt 0)) rfl rfl rfl ?_
  refine h_put (pc' := 5) rfl rfl rfl rfl rfl rfl ci_0 rfl (h_fgt (E := fun s => s 98 15 = σ 98 15 ∧ s 98 17 = σ 98 17 ∧ s 98 13 = 0 ∧ s 64 1 = σ 64 1 ∧ s 98 11 = σ 98 11) _ (if_98_13 hI (by omega)) (F00.up rfl) ⟨rfl, rfl, rfl, rfl, rfl⟩ (fun s1 Is1 Fs1 (es1 : s1 98 15 = σ 98 15 ∧ s1 98 17 = σ 98 17 ∧ s1 98 13 = 0 ∧ s1 64 1 = σ 64 1 ∧ s1 98 11 = σ 98 11) => ?_))
  refine h_aload_n (pc' := 6) rfl rfl rfl ?_
  refine h_iconst (pc' := 7) (x := (Int32.ofInt 0)) rfl rfl rfl ?_
  refine h_put (pc' := 10) rfl rfl rfl rfl rfl rfl ci_0 rfl (h_fgt (E := fun s => s 98 15 = 0 ∧ s 98 17 = σ 98 17 ∧ s 98 13 = 0 ∧ s 64 1 = σ 64 1 ∧ s 98 11 = σ 98 11) _ (if_98_15 Is1 (by omega)) (Fs1.up rfl) ⟨rfl, es1.2.1, es1.2.2.1, es1.2.2.2.1, es1.2.2.2.2⟩ (fun s2 Is2 Fs2 (es2 : s2 98 15 = 0 ∧ s2 98 17 = σ 98 17 ∧ s2 98 13 = 0 ∧ s2 64 1 = σ 64 1 ∧ s2 98 11 = σ 98 11) => ?_))
  clear es1
  refine h_aload_n (pc' := 11) rfl rfl rfl ?_
  refine h_iconst (pc' := 12) (x := (Int32.ofInt 0)) rfl rfl rfl ?_
  refine h_put (pc' := 15) rfl rfl rfl rfl rfl rfl ci_0 rfl (h_fgt (E := fun s => s 98 15 = 0 ∧ s 98 17 = σ 98 17 ∧ s 98 13 = 0 ∧ s 64 1 = σ 64 1 ∧ s 98 11 = σ 98 11) _ (if_98_5 Is2 (by omega)) (Fs2.up rfl) ⟨es2.1, es2.2.1, es2.2.2.1, es2.2.2.2.1, es2.2.2.2.2⟩ (fun s3 Is3 Fs3 (es3 : s3 98 15 = 0 ∧ s3 98 17 = σ 98 17 ∧ s3 98 13 = 0 ∧ s3 64 1 = σ 64 1 ∧ s3 98 11 = σ 98 11) => ?_))
  clear es2
  refine h_aload_n (pc' := 16) rfl rfl rfl ?_
  refine h_iconst (pc' := 17) (x := (Int32.ofInt 0)) rfl rfl rfl ?_
  refine h_put (pc' := 20) rfl rfl rfl rfl rfl rfl ci_0 rfl (h_fgt (E := fun s => s 98 15 = 0 ∧ s 98 17 = σ 98 17 ∧ s 98 13 = 0 ∧ s 64 1 = σ 64 1 ∧ s 98 11 = σ 98 11) _ (if_98_6 Is3 (by omega)) (Fs3.up rfl) ⟨es3.1, es3.2.1, es3.2.2.1, es3.2.2.2.1, es3.2.2.2.2⟩ (fun s4 Is4 Fs4 (es4 : s4 98 15 = 0 ∧ s4 98 17 = σ 98 17 ∧ s4 98 13 = 0 ∧ s4 64 1 = σ 64 1 ∧ s4 98 11 = σ 98 11) => ?_))
  clear es3
  refine h_aload_n (pc' := 21) rfl rfl rfl ?_
  refine h_iconst (pc' := 22) (x := (Int32.ofInt 0)) rfl rfl rfl ?_
  refine h_put (pc' := 25) rfl rfl rfl rfl rfl rfl ci_0 (h_fb ci_0 (by omega)) (h_fgt (E := fun s => s 98 15 = 0 ∧ s 98 17 = σ 98 17 ∧ s 98 13 = 0 ∧ s 64 1 = σ 64 1 ∧ s 98 11 = σ 98 11) _ (if_98_7 Is4 (by omega)) (Fs4.up rfl) ⟨es4.1, es4.2.1, es4.2.2.1, es4.2.2.2.1, es4.2.2.2.2⟩ (fun s5 Is5 Fs5 (es5 : s5 98 15 = 0 ∧ s5 98 17 = σ 98 17 ∧ s5 98 13 = 0 ∧ s5 64 1 = σ 64 1 ∧ s5 98 11 = σ 98 11) => ?_))
  clear es4
  refine h_aload_n (pc' := 26) rfl rfl rfl ?_
  refine h_iconst (pc' := 27) (x := (Int32.ofInt (-1))) rfl rfl rfl ?_
  refine h_put (pc' := 30) rfl rfl rfl rfl rfl rfl ci_m1 rfl (h_fgt (E := fun s => s 98 15 = 0 ∧ s 98 17 = σ 98 17 ∧ s 98 13 = 0 ∧ s 64 1 = σ 64 1 ∧ s 98 11 = σ 98 11) _ (if_98_8 Is5 (by omega)) (Fs5.up rfl) ⟨es5.1, es5.2.1, es5.2.2.1, es5.2.2.2.1, es5.2.2.2.2⟩ (fun s6 Is6 Fs6 (es6 : s6 98 15 = 0 ∧ s6 98 17 = σ 98 17 ∧ s6 98 13 = 0 ∧ s6 64 1 = σ 64 1 ∧ s6 98 11 = σ 98 11) => ?_))
  clear es5
  refine h_aload_n (pc' := 31) rfl rfl rfl ?_
  refine h_iconst (pc' := 32) (x := (Int32.ofInt (-1))) rfl rfl rfl ?_
  refine h_put (pc' := 35) rfl rfl rfl rfl rfl rfl ci_m1 rfl (h_fgt (E := fun s => s 98 15 = 0 ∧ s 98 17 = σ 98 17 ∧ s 98 13 = 0 ∧ s 64 1 = σ 64 1 ∧ s 98 11 = σ 98 11) _ (if_98_9 Is6 (by omega)) (Fs6.up rfl) ⟨es6.1, es6.2.1, es6.2.2.1, es6.2.2.2.1, es6.2.2.2.2⟩ (fun s7 Is7 Fs7 (es7 : s7 98 15 = 0 ∧ s7 98 17 = σ 98 17 ∧ s7 98 13 = 0 ∧ s7 64 1 = σ 64 1 ∧ s7 98 11 = σ 98 11) => ?_))
  clear es6
  refine h_iconst (pc' := 36) (x := (Int32.ofInt 0)) rfl rfl rfl ?_
  refine h_istore_n (pc' := 37) (M := [(1, .int (Int32.ofInt 0)), (0, .ref 98)]) rfl rfl rfl rfl ?_
  refine h_iconst (pc' := 38) (x := (Int32.ofInt 0)) rfl rfl rfl ?_
  refine h_istore_n (pc' := 39) (M := [(2, .int (Int32.ofInt 0)), (1, .int (Int32.ofInt 0)), (0, .ref 98)]) rfl rfl rfl rfl ?_
  have ga0 := tf_98_17 Is7
  have ga1 := tf_98_13 Is7
  exact h_wk [(0, .ref 98), (1, .int (Int32.ofInt 0)), (2, .int (Int32.ofInt 0))] ⟨rfl, rfl, rfl, trivial⟩ ((v_textM_l ns σ hI  kk 1000000000000).1 _ Is7 Fs7 (Int32.ofInt 0) _ ci_0 (by omega) (Int32.ofInt 0) _ ci_0 (by omega) (by omega) (by omega))
def kf_v_feedM : List Nat := [100363, 105471]
set_option maxHeartbeats 100000000 in
theorem v_feedM {ns : Nat} (σ : h_S) (hI : h_I σ) (x0 : Int32) (a0 : Int) (hx0 : x0.toInt = a0) {Q : Option Value → h_S → Prop} (kk : ∀ (r : Int32) (b : Int) (hb : r.toInt = b) (τ : h_S), h_I τ → h_F (k_in kf_v_feedM) τ σ → ((-3) ≤ b ∧ b ≤ 160) → ((0 ≤ a0 ∧ a0 ≤ 127 ∧ σ 98 11 ≤ 159 ∧ τ 98 11 = σ 98 11 + 1 ∧ b = σ 98 11 + 1) ∨ ((a0 < 0 ∨ 127 < a0) ∧ b = -1 ∧ τ 98 11 = σ 98 11) ∨ (0 ≤ a0 ∧ a0 ≤ 127 ∧ σ 98 11 = 160 ∧ b = -3 ∧ τ 98 11 = σ 98 11)) → (τ 64 1 = σ 64 1) → Q (some (.int r)) τ) : h_T g_P (g_Y ns) 143 0 [(0, .ref 98), (1, .int x0)] [] σ Q := by
  have F00 : h_F (k_in kf_v_feedM) σ σ := h_F.rf
  refine h_iload_n (pc' := 1) rfl rfl rfl ?_
  refine h_i2l (pc' := 2) rfl rfl hx0 (fun z1 hz1 => ?_)
  refine h_lconst (pc' := 3) (x := (Int64.ofInt 0)) rfl rfl rfl ?_
  refine h_ldc2 (pc' := 6) (x := (Int64.ofInt 127)) rfl rfl rfl ?_
  refine h_calls (pc' := 9) (M := [(0, .long z1), (2, .long (Int64.ofInt 0)), (4, .long (Int64.ofInt 127))]) rfl rfl rfl rfl rfl rfl ?_
  refine h_lload_n (pc' := 1) rfl rfl rfl ?_
  refine h_lload_n (pc' := 2) rfl rfl rfl ?_
  refine h_lcmp (pc' := 3) rfl rfl hz1 cl_0 (fun z2 hz2 => ?_)
  refine h_zlt (tg := 17) (pc' := 6) rfl rfl rfl rfl (fun c3 => ?_) (fun c3 => ?_)
  · replace c3 := (h_lcr hz2).1 c3
    clear hz2
    refine h_iconst (pc' := 18) (x := (Int32.ofInt 0)) rfl rfl rfl ?_
    refine h_zret rfl rfl ci_0 (by omega) (h_Kv ?_)
    refine h_zne (tg := 14) (pc' := 12) rfl rfl rfl ci_0 (fun c4 => absurd c4 (by omega)) (fun c4 => ?_)
    refine h_iconst (pc' := 13) (x := (Int32.ofInt (-1))) rfl rfl rfl ?_
    exact h_iret rfl rfl (kk _ _ ci_m1 _ hI F00 (by omega) (by omega) (by omega))
  · replace c3 := (h_lcr hz2).2.1 c3
    clear hz2
    refine h_lload_n (pc' := 7) rfl rfl rfl ?_
    refine h_lload (pc' := 9) rfl rfl rfl ?_
    refine h_lcmp (pc' := 10) rfl rfl hz1 cl_127 (fun z5 hz5 => ?_)
    refine h_zgt (tg := 17) (pc' := 13) rfl rfl rfl rfl (fun c6 => ?_) (fun c6 => ?_)
    · replace c6 := (h_lcr hz5).2.2.2.1 c6
      clear hz5
      refine h_iconst (pc' := 18) (x := (Int32.ofInt 0)) rfl rfl rfl ?_
      refine h_zret rfl rfl ci_0 (by omega) (h_Kv ?_)
      refine h_zne (tg := 14) (pc' := 12) rfl rfl rfl ci_0 (fun c7 => absurd c7 (by omega)) (fun c7 => ?_)
      refine h_iconst (pc' := 13) (x := (Int32.ofInt (-1))) rfl rfl rfl ?_
      exact h_iret rfl rfl (kk _ _ ci_m1 _ hI F00 (by omega) (by omega) (by omega))
    · replace c6 := (h_lcr hz5).2.2.1 c6
      clear hz5
      refine h_iconst (pc' := 14) (x := (Int32.ofInt 1)) rfl rfl rfl ?_
      refine h_goto (pc' := 18) rfl rfl ?_
      refine h_zret rfl rfl ci_1 (by omega) (h_Kv ?_)
      refine h_zne (tg := 14) (pc' := 12) rfl rfl rfl ci_1 (fun c8 => ?_) (fun c8 => absurd c8 (by omega))
      refine h_aload_n (pc' := 15) rfl rfl rfl ?_
      refine h_getI (pc' := 18) (v := σ 98 11) rfl rfl rfl rfl rfl rfl (fun z9 hz9 => ?_)
      have tz9 := tf_98_11 hI
      refine h_sipush (pc' := 21) (x := (Int32.ofInt 160)) rfl rfl cs_160 ?_
      refine h_cne (tg := 27) (pc' := 24) rfl rfl rfl hz9 ci_160 (fun c10 => ?_) (fun c10 => ?_)
      · refine h_aload_n (pc' := 28) rfl rfl rfl ?_
        refine h_getR (pc' := 31) rfl rfl rfl rfl rfl ?_
        refine h_aload_n (pc' := 32) rfl rfl rfl ?_
        refine h_getI (pc' := 35) (v := σ 98 11) rfl rfl rfl rfl rfl rfl (fun z11 hz11 => ?_)
        have tz11 := tf_98_11 hI
        refine h_iload_n (pc' := 36) rfl rfl rfl ?_
        refine h_iast (pc' := 37) rfl rfl rfl rfl hz11 (by omega) (by omega) hx0 (h_fgt (E := fun s => s 64 1 = σ 64 1 ∧ s 98 11 = σ 98 11) _ (in_102 hI (by omega)) (F00.up rfl) ⟨rfl, rfl⟩ (fun s12 Is12 Fs12 (es12 : s12 64 1 = σ 64 1 ∧ s12 98 11 = σ 98 11) => ?_))
        refine h_aload_n (pc' := 38) rfl rfl rfl ?_
        refine h_dup (pc' := 39) rfl rfl rfl ?_
        refine h_getI (pc' := 42) (v := σ 98 11) rfl rfl rfl rfl rfl es12.2 (fun z13 hz13 => ?_)
        have tz13 := tf_98_11 hI
        refine h_iconst (pc' := 43) (x := (Int32.ofInt 1)) rfl rfl rfl ?_
        refine h_iadd (pc' := 44) rfl rfl hz13 ci_1 rfl (by omega) (by omega) (fun z14 hz14 => ?_)
        refine h_put (pc' := 47) rfl rfl rfl rfl rfl rfl hz14 rfl (h_fgt (E := fun s => s 64 1 = σ 64 1 ∧ s 98 11 = ((σ 98 11) + 1)) _ (if_98_11 Is12 (by omega)) (Fs12.up rfl) ⟨es12.1, rfl⟩ (fun s15 Is15 Fs15 (es15 : s15 64 1 = σ 64 1 ∧ s15 98 11 = ((σ 98 11) + 1)) => ?_))
        clear es12
        refine h_aload_n (pc' := 48) rfl rfl rfl ?_
        refine h_getI (pc' := 51) (v := ((σ 98 11) + 1)) rfl rfl rfl rfl rfl es15.2 (fun z16 hz16 => ?_)
        exact h_iret rfl rfl (kk _ _ hz16 _ Is15 Fs15 (by omega) (by omega) (by omega))
      · refine h_bipush (pc' := 26) (x := (Int32.ofInt (-3))) rfl rfl cb_m3 ?_
        exact h_iret rfl rfl (kk _ _ ci_m3 _ hI F00 (by omega) (by omega) (by omega))
def kf_v_endM : List Nat := [100363]
set_option maxHeartbeats 100000000 in
theorem v_endM {ns : Nat} (σ : h_S) (hI : h_I σ) (x0 : Int32) (a0 : Int) (hx0 : x0.toInt = a0) {Q : Option Value → h_S → Prop} (kk : ∀ (r : Int32) (b : Int) (hb : r.toInt = b) (τ : h_S), h_I τ → h_F (k_in kf_v_endM) τ σ → ((-1) ≤ b ∧ b ≤ 160) → ((0 ≤ a0 ∧ a0 ≤ σ 98 11 ∧ b = σ 98 11 ∧ τ 98 11 = a0) ∨ ((a0 < 0 ∨ σ 98 11 < a0) ∧ b = -1 ∧ τ 98 11 = σ 98 11)) → (τ 64 1 = σ 64 1) → Q (some (.int r)) τ) : h_T g_P (g_Y ns) 144 0 [(0, .ref 98), (1, .int x0)] [] σ Q := by
  have F00 : h_F (k_in kf_v_endM) σ σ := h_F.rf
  refine h_iload_n (pc' := 1) rfl rfl rfl ?_
  refine h_i2l (pc' := 2) rfl rfl hx0 (fun z1 hz1 => ?_)
  refine h_lconst (pc' := 3) (x := (Int64.ofInt 0)) rfl rfl rfl ?_
  refine h_aload_n (pc' := 4) rfl rfl rfl ?_
  refine h_getI (pc' := 7) (v := σ 98 11) rfl rfl rfl rfl rfl rfl (fun z2 hz2 => ?_)
  have tz2 := tf_98_11 hI
  refine h_i2l (pc' := 8) rfl rfl hz2 (fun z3 hz3 => ?_)
  refine h_calls (pc' := 11) (M := [(0, .long z1), (2, .long (Int64.ofInt 0)), (4, .long z3)]) rfl rfl rfl rfl rfl rfl ?_
  refine h_lload_n (pc' := 1) rfl rfl rfl ?_
  refine h_lload_n (pc' := 2) rfl rfl rfl ?_
  refine h_lcmp (pc' := 3) rfl rfl hz1 cl_0 (fun z4 hz4 => ?_)
  refine h_zlt (tg := 17) (pc' := 6) rfl rfl rfl rfl (fun c5 => ?_) (fun c5 => ?_)
  · replace c5 := (h_lcr hz4).1 c5
    clear hz4
    refine h_iconst (pc' := 18) (x := (Int32.ofInt 0)) rfl rfl rfl ?_
    refine h_zret rfl rfl ci_0 (by omega) (h_Kv ?_)
    refine h_zne (tg := 16) (pc' := 14) rfl rfl rfl ci_0 (fun c6 => absurd c6 (by omega)) (fun c6 => ?_)
    refine h_iconst (pc' := 15) (x := (Int32.ofInt (-1))) rfl rfl rfl ?_
    exact h_iret rfl rfl (kk _ _ ci_m1 _ hI F00 (by omega) (by omega) (by omega))
  · replace c5 := (h_lcr hz4).2.1 c5
    clear hz4
    refine h_lload_n (pc' := 7) rfl rfl rfl ?_
    refine h_lload (pc' := 9) rfl rfl rfl ?_
    refine h_lcmp (pc' := 10) rfl rfl hz1 hz3 (fun z7 hz7 => ?_)
    refine h_zgt (tg := 17) (pc' := 13) rfl rfl rfl rfl (fun c8 => ?_) (fun c8 => ?_)
    · replace c8 := (h_lcr hz7).2.2.2.1 c8
      clear hz7
      refine h_iconst (pc' := 18) (x := (Int32.ofInt 0)) rfl rfl rfl ?_
      refine h_zret rfl rfl ci_0 (by omega) (h_Kv ?_)
      refine h_zne (tg := 16) (pc' := 14) rfl rfl rfl ci_0 (fun c9 => absurd c9 (by omega)) (fun c9 => ?_)
      refine h_iconst (pc' := 15) (x := (Int32.ofInt (-1))) rfl rfl rfl ?_
      exact h_iret rfl rfl (kk _ _ ci_m1 _ hI F00 (by omega) (by omega) (by omega))
    · replace c8 := (h_lcr hz7).2.2.1 c8
      clear hz7
      refine h_iconst (pc' := 14) (x := (Int32.ofInt 1)) rfl rfl rfl ?_
      refine h_goto (pc' := 18) rfl rfl ?_
      refine h_zret rfl rfl ci_1 (by omega) (h_Kv ?_)
      refine h_zne (tg := 16) (pc' := 14) rfl rfl rfl ci_1 (fun c10 => ?_) (fun c10 => absurd c10 (by omega))
      refine h_aload_n (pc' := 17) rfl rfl rfl ?_
      refine h_getI (pc' := 20) (v := σ 98 11) rfl rfl rfl rfl rfl rfl (fun z11 hz11 => ?_)
      have tz11 := tf_98_11 hI
      refine h_istore_n (pc' := 21) (M := [(2, .int z11), (0, .ref 98), (1, .int x0)]) rfl rfl rfl rfl ?_
      refine h_aload_n (pc' := 22) rfl rfl rfl ?_
      refine h_iload_n (pc' := 23) rfl rfl rfl ?_
      refine h_put (pc' := 26) rfl rfl rfl rfl rfl rfl hx0 rfl (h_fgt (E := fun s => s 64 1 = σ 64 1 ∧ s 98 11 = a0) _ (if_98_11 hI (by omega)) (F00.up rfl) ⟨rfl, rfl⟩ (fun s12 Is12 Fs12 (es12 : s12 64 1 = σ 64 1 ∧ s12 98 11 = a0) => ?_))
      refine h_iload_n (pc' := 27) rfl rfl rfl ?_
      exact h_iret rfl rfl (kk _ _ hz11 _ Is12 Fs12 (by omega) (by omega) (by omega))
