def kf_v_number : List Nat := [100365, 100366, 100367, 100368, 100369, 100370]
set_option maxHeartbeats 100000000 in
theorem v_number {ns : Nat} (σ : h_S) (hI : h_I σ) (x1 : Int32) (a1 : Int) (hx1 : x1.toInt = a1) (pr0 : -1 ≤ a1) {Q : Option Value → h_S → Prop} (kk : ∀ (r : Int32) (b : Int) (hb : r.toInt = b) (τ : h_S), h_I τ → h_F (k_in kf_v_number) τ σ → (0 ≤ b ∧ b ≤ 99) → (b ≤ a1 + 1) → (a1 = -1 ∨ b ≤ a1) → (((1 ≤ σ 98 13 ∧ σ 98 13 ≤ 6) ∧ (1 ≤ τ 98 13 ∧ τ 98 13 ≤ 6) ∧ (σ 98 15 ≤ τ 98 15)) ∨ ((σ 98 13 = 0) ∧ (1 ≤ τ 98 13 ∧ τ 98 13 ≤ 6) ∧ (σ 98 15 ≤ τ 98 15)) ∨ ((σ 98 13 = 0) ∧ (τ 98 13 = 0) ∧ (σ 98 15 ≤ τ 98 15))) → Q (some (.int r)) τ) : h_T g_P (g_Y ns) 149 0 [(0, .ref 98), (1, .int (Int32.ofInt 0)), (2, .int x1)] [] σ Q := by
  have F00 : h_F (k_in kf_v_number) σ σ := h_F.rf
  have ge0 := tf_98_13 hI
  refine h_aload_n (pc' := 1) rfl rfl rfl ?_
  refine h_getI (pc' := 4) (v := σ 98 13) rfl rfl rfl rfl rfl rfl (fun z1 hz1 => ?_)
  have tz1 := tf_98_13 hI
  refine h_zne (tg := 20) (pc' := 7) rfl rfl rfl hz1 (fun c2 => ?_) (fun c2 => ?_)
  · refine h_aload_n (pc' := 21) rfl rfl rfl ?_
    refine h_getI (pc' := 24) (v := σ 98 13) rfl rfl rfl rfl rfl rfl (fun z3 hz3 => ?_)
    have tz3 := tf_98_13 hI
    refine h_zne (tg := 47) (pc' := 27) rfl rfl rfl hz3 (fun c4 => ?_) (fun c4 => absurd c4 (by omega))
    refine h_aload_n (pc' := 48) rfl rfl rfl ?_
    refine h_getI (pc' := 51) (v := σ 98 13) rfl rfl rfl rfl rfl rfl (fun z5 hz5 => ?_)
    have tz5 := tf_98_13 hI
    refine h_zne (tg := 61) (pc' := 54) rfl rfl rfl hz5 (fun c6 => ?_) (fun c6 => absurd c6 (by omega))
    refine h_iload_n (pc' := 62) rfl rfl rfl ?_
    refine h_istore_n (pc' := 63) (M := [(3, .int (Int32.ofInt 0)), (0, .ref 98), (1, .int (Int32.ofInt 0)), (2, .int x1)]) rfl rfl rfl rfl ?_
    refine h_aload_n (pc' := 64) rfl rfl rfl ?_
    refine h_call (sp := false) (pc' := 67) (M := [(0, .ref 98)]) rfl rfl rfl rfl rfl rfl rfl rfl ?_
    refine v_step _ hI  (fun s8 Is8 Gs8 pcs8 => h_Kn ?_)
    have Fs8 := (Gs8.mono (B := kf_v_number) rfl).tr F00
    rcases pcs8 with pcs8 | pcs8 | pcs8 | pcs8
    · refine h_iload_n (pc' := 68) rfl rfl rfl ?_
      exact h_iret rfl rfl (kk _ _ ci_0 _ Is8 Fs8 (by omega) (by omega) (by omega) (Or.inl ⟨by omega, by omega, by omega⟩))
    · exfalso; omega
    · exfalso; omega
    · exfalso; omega
  · refine h_aload_n (pc' := 8) rfl rfl rfl ?_
    refine h_getI (pc' := 11) (v := σ 98 17) rfl rfl rfl rfl rfl rfl (fun z9 hz9 => ?_)
    have tz9 := tf_98_17 hI
    refine h_iconst (pc' := 12) (x := (Int32.ofInt 2)) rfl rfl rfl ?_
    refine h_ceq (tg := 20) (pc' := 15) rfl rfl rfl hz9 ci_2 (fun c10 => ?_) (fun c10 => ?_)
    · refine h_aload_n (pc' := 21) rfl rfl rfl ?_
      refine h_getI (pc' := 24) (v := σ 98 13) rfl rfl rfl rfl rfl rfl (fun z11 hz11 => ?_)
      have tz11 := tf_98_13 hI
      refine h_zne (tg := 47) (pc' := 27) rfl rfl rfl hz11 (fun c12 => absurd c12 (by omega)) (fun c12 => ?_)
      refine h_aload_n (pc' := 28) rfl rfl rfl ?_
      refine h_getI (pc' := 31) (v := σ 98 18) rfl rfl rfl rfl rfl rfl (fun z13 hz13 => ?_)
      have tz13 := tf_98_18 hI
      refine h_i2l (pc' := 32) rfl rfl hz13 (fun z14 hz14 => ?_)
      refine h_iload_n (pc' := 33) rfl rfl rfl ?_
      refine h_i2l (pc' := 34) rfl rfl ci_0 (fun z15 hz15 => ?_)
      refine h_iload_n (pc' := 35) rfl rfl rfl ?_
      refine h_i2l (pc' := 36) rfl rfl hx1 (fun z16 hz16 => ?_)
      refine h_calls (pc' := 39) (M := [(0, .long z14), (2, .long z15), (4, .long z16)]) rfl rfl rfl rfl rfl rfl ?_
      refine h_lload_n (pc' := 1) rfl rfl rfl ?_
      refine h_lload_n (pc' := 2) rfl rfl rfl ?_
      refine h_lcmp (pc' := 3) rfl rfl hz14 hz15 (fun z17 hz17 => ?_)
      refine h_zlt (tg := 17) (pc' := 6) rfl rfl rfl rfl (fun c18 => absurd c18 (by omega)) (fun c18 => ?_)
      replace c18 := (h_lcr hz17).2.1 c18
      clear hz17
      refine h_lload_n (pc' := 7) rfl rfl rfl ?_
      refine h_lload (pc' := 9) rfl rfl rfl ?_
      refine h_lcmp (pc' := 10) rfl rfl hz14 hz16 (fun z19 hz19 => ?_)
      refine h_zgt (tg := 17) (pc' := 13) rfl rfl rfl rfl (fun c20 => ?_) (fun c20 => ?_)
      · replace c20 := (h_lcr hz19).2.2.2.1 c20
        clear hz19
        refine h_iconst (pc' := 18) (x := (Int32.ofInt 0)) rfl rfl rfl ?_
        refine h_zret rfl rfl ci_0 (by omega) (h_Kv ?_)
        refine h_zne (tg := 47) (pc' := 42) rfl rfl rfl ci_0 (fun c21 => absurd c21 (by omega)) (fun c21 => ?_)
        refine h_aload_n (pc' := 43) rfl rfl rfl ?_
        refine h_iconst (pc' := 44) (x := (Int32.ofInt 3)) rfl rfl rfl ?_
        refine h_call (sp := false) (pc' := 47) (M := [(0, .ref 98), (1, .int (Int32.ofInt 3))]) rfl rfl rfl rfl rfl rfl rfl rfl ?_
        refine h_aload_n (pc' := 1) rfl rfl rfl ?_
        refine h_getI (pc' := 4) (v := σ 98 13) rfl rfl rfl rfl rfl rfl (fun z22 hz22 => ?_)
        have tz22 := tf_98_13 hI
        refine h_zne (tg := 20) (pc' := 7) rfl rfl rfl hz22 (fun c23 => absurd c23 (by omega)) (fun c23 => ?_)
        refine h_aload_n (pc' := 8) rfl rfl rfl ?_
        refine h_iload_n (pc' := 9) rfl rfl rfl ?_
        refine h_put (pc' := 12) rfl rfl rfl rfl rfl rfl ci_3 rfl (h_fgt (E := fun s => s 98 15 = σ 98 15 ∧ s 98 16 = σ 98 16 ∧ s 98 17 = σ 98 17 ∧ s 98 18 = σ 98 18 ∧ s 98 13 = 3) _ (if_98_13 hI (by omega)) (F00.up rfl) ⟨rfl, rfl, rfl, rfl, rfl⟩ (fun s24 Is24 Fs24 (es24 : s24 98 15 = σ 98 15 ∧ s24 98 16 = σ 98 16 ∧ s24 98 17 = σ 98 17 ∧ s24 98 18 = σ 98 18 ∧ s24 98 13 = 3) => ?_))
        refine h_aload_n (pc' := 13) rfl rfl rfl ?_
        refine h_aload_n (pc' := 14) rfl rfl rfl ?_
        refine h_getI (pc' := 17) (v := σ 98 16) rfl rfl rfl rfl rfl es24.2.1 (fun z25 hz25 => ?_)
        have tz25 := tf_98_16 hI
        refine h_put (pc' := 20) rfl rfl rfl rfl rfl rfl hz25 rfl (h_fgt (E := fun s => s 98 15 = σ 98 15 ∧ s 98 16 = σ 98 16 ∧ s 98 17 = σ 98 17 ∧ s 98 18 = σ 98 18 ∧ s 98 13 = 3) _ (if_98_14 Is24 (h_rgv hz25)) (Fs24.up rfl) ⟨es24.1, es24.2.1, es24.2.2.1, es24.2.2.2.1, es24.2.2.2.2⟩ (fun s26 Is26 Fs26 (es26 : s26 98 15 = σ 98 15 ∧ s26 98 16 = σ 98 16 ∧ s26 98 17 = σ 98 17 ∧ s26 98 18 = σ 98 18 ∧ s26 98 13 = 3) => ?_))
        clear es24
        refine h_vret rfl rfl (h_Kn ?_)
        refine h_aload_n (pc' := 48) rfl rfl rfl ?_
        refine h_getI (pc' := 51) (v := 3) rfl rfl rfl rfl rfl es26.2.2.2.2 (fun z27 hz27 => ?_)
        refine h_zne (tg := 61) (pc' := 54) rfl rfl rfl hz27 (fun c28 => ?_) (fun c28 => absurd c28 (by omega))
        refine h_iload_n (pc' := 62) rfl rfl rfl ?_
        refine h_istore_n (pc' := 63) (M := [(3, .int (Int32.ofInt 0)), (0, .ref 98), (1, .int (Int32.ofInt 0)), (2, .int x1)]) rfl rfl rfl rfl ?_
        refine h_aload_n (pc' := 64) rfl rfl rfl ?_
        refine h_call (sp := false) (pc' := 67) (M := [(0, .ref 98)]) rfl rfl rfl rfl rfl rfl rfl rfl ?_
        refine v_step _ Is26  (fun s30 Is30 Gs30 pcs30 => h_Kn ?_)
        have Fs30 := (Gs30.mono (B := kf_v_number) rfl).tr Fs26
        rcases pcs30 with pcs30 | pcs30 | pcs30 | pcs30
        · refine h_iload_n (pc' := 68) rfl rfl rfl ?_
          exact h_iret rfl rfl (kk _ _ ci_0 _ Is30 Fs30 (by omega) (by omega) (by omega) (Or.inr (Or.inl ⟨by omega, by omega, by omega⟩)))
        · exfalso; omega
        · exfalso; omega
        · exfalso; omega
      · replace c20 := (h_lcr hz19).2.2.1 c20
        clear hz19
        refine h_iconst (pc' := 14) (x := (Int32.ofInt 1)) rfl rfl rfl ?_
        refine h_goto (pc' := 18) rfl rfl ?_
        refine h_zret rfl rfl ci_1 (by omega) (h_Kv ?_)
        refine h_zne (tg := 47) (pc' := 42) rfl rfl rfl ci_1 (fun c31 => ?_) (fun c31 => absurd c31 (by omega))
        refine h_aload_n (pc' := 48) rfl rfl rfl ?_
        refine h_getI (pc' := 51) (v := σ 98 13) rfl rfl rfl rfl rfl rfl (fun z32 hz32 => ?_)
        have tz32 := tf_98_13 hI
        refine h_zne (tg := 61) (pc' := 54) rfl rfl rfl hz32 (fun c33 => absurd c33 (by omega)) (fun c33 => ?_)
        refine h_aload_n (pc' := 55) rfl rfl rfl ?_
        refine h_getI (pc' := 58) (v := σ 98 18) rfl rfl rfl rfl rfl rfl (fun z34 hz34 => ?_)
        have tz34 := tf_98_18 hI
        refine h_goto (pc' := 62) rfl rfl ?_
        refine h_istore_n (pc' := 63) (M := [(3, .int z34), (0, .ref 98), (1, .int (Int32.ofInt 0)), (2, .int x1)]) rfl rfl rfl rfl ?_
        refine h_aload_n (pc' := 64) rfl rfl rfl ?_
        refine h_call (sp := false) (pc' := 67) (M := [(0, .ref 98)]) rfl rfl rfl rfl rfl rfl rfl rfl ?_
        refine v_step _ hI  (fun s36 Is36 Gs36 pcs36 => h_Kn ?_)
        have Fs36 := (Gs36.mono (B := kf_v_number) rfl).tr F00
        rcases pcs36 with pcs36 | pcs36 | pcs36 | pcs36
        · exfalso; omega
        · refine h_iload_n (pc' := 68) rfl rfl rfl ?_
          exact h_iret rfl rfl (kk _ _ hz34 _ Is36 Fs36 (by omega) (by omega) (by omega) (Or.inr (Or.inl ⟨by omega, by omega, by omega⟩)))
        · refine h_iload_n (pc' := 68) rfl rfl rfl ?_
          exact h_iret rfl rfl (kk _ _ hz34 _ Is36 Fs36 (by omega) (by omega) (by omega) (Or.inr (Or.inr ⟨by omega, by omega, by omega⟩)))
        · refine h_iload_n (pc' := 68) rfl rfl rfl ?_
          exact h_iret rfl rfl (kk _ _ hz34 _ Is36 Fs36 (by omega) (by omega) (by omega) (Or.inr (Or.inr ⟨by omega, by omega, by omega⟩)))
    · refine h_aload_n (pc' := 16) rfl rfl rfl ?_
      refine h_iconst (pc' := 17) (x := (Int32.ofInt 2)) rfl rfl rfl ?_
      refine h_call (sp := false) (pc' := 20) (M := [(0, .ref 98), (1, .int (Int32.ofInt 2))]) rfl rfl rfl rfl rfl rfl rfl rfl ?_
      refine h_aload_n (pc' := 1) rfl rfl rfl ?_
      refine h_getI (pc' := 4) (v := σ 98 13) rfl rfl rfl rfl rfl rfl (fun z37 hz37 => ?_)
      have tz37 := tf_98_13 hI
      refine h_zne (tg := 20) (pc' := 7) rfl rfl rfl hz37 (fun c38 => absurd c38 (by omega)) (fun c38 => ?_)
      refine h_aload_n (pc' := 8) rfl rfl rfl ?_
      refine h_iload_n (pc' := 9) rfl rfl rfl ?_
      refine h_put (pc' := 12) rfl rfl rfl rfl rfl rfl ci_2 rfl (h_fgt (E := fun s => s 98 15 = σ 98 15 ∧ s 98 16 = σ 98 16 ∧ s 98 17 = σ 98 17 ∧ s 98 18 = σ 98 18 ∧ s 98 13 = 2) _ (if_98_13 hI (by omega)) (F00.up rfl) ⟨rfl, rfl, rfl, rfl, rfl⟩ (fun s39 Is39 Fs39 (es39 : s39 98 15 = σ 98 15 ∧ s39 98 16 = σ 98 16 ∧ s39 98 17 = σ 98 17 ∧ s39 98 18 = σ 98 18 ∧ s39 98 13 = 2) => ?_))
      refine h_aload_n (pc' := 13) rfl rfl rfl ?_
      refine h_aload_n (pc' := 14) rfl rfl rfl ?_
      refine h_getI (pc' := 17) (v := σ 98 16) rfl rfl rfl rfl rfl es39.2.1 (fun z40 hz40 => ?_)
      have tz40 := tf_98_16 hI
      refine h_put (pc' := 20) rfl rfl rfl rfl rfl rfl hz40 rfl (h_fgt (E := fun s => s 98 15 = σ 98 15 ∧ s 98 16 = σ 98 16 ∧ s 98 17 = σ 98 17 ∧ s 98 18 = σ 98 18 ∧ s 98 13 = 2) _ (if_98_14 Is39 (h_rgv hz40)) (Fs39.up rfl) ⟨es39.1, es39.2.1, es39.2.2.1, es39.2.2.2.1, es39.2.2.2.2⟩ (fun s41 Is41 Fs41 (es41 : s41 98 15 = σ 98 15 ∧ s41 98 16 = σ 98 16 ∧ s41 98 17 = σ 98 17 ∧ s41 98 18 = σ 98 18 ∧ s41 98 13 = 2) => ?_))
      clear es39
      refine h_vret rfl rfl (h_Kn ?_)
      refine h_aload_n (pc' := 21) rfl rfl rfl ?_
      refine h_getI (pc' := 24) (v := 2) rfl rfl rfl rfl rfl es41.2.2.2.2 (fun z42 hz42 => ?_)
      refine h_zne (tg := 47) (pc' := 27) rfl rfl rfl hz42 (fun c43 => ?_) (fun c43 => absurd c43 (by omega))
      refine h_aload_n (pc' := 48) rfl rfl rfl ?_
      refine h_getI (pc' := 51) (v := 2) rfl rfl rfl rfl rfl es41.2.2.2.2 (fun z44 hz44 => ?_)
      refine h_zne (tg := 61) (pc' := 54) rfl rfl rfl hz44 (fun c45 => ?_) (fun c45 => absurd c45 (by omega))
      refine h_iload_n (pc' := 62) rfl rfl rfl ?_
      refine h_istore_n (pc' := 63) (M := [(3, .int (Int32.ofInt 0)), (0, .ref 98), (1, .int (Int32.ofInt 0)), (2, .int x1)]) rfl rfl rfl rfl ?_
      refine h_aload_n (pc' := 64) rfl rfl rfl ?_
      refine h_call (sp := false) (pc' := 67) (M := [(0, .ref 98)]) rfl rfl rfl rfl rfl rfl rfl rfl ?_
      refine v_step _ Is41  (fun s47 Is47 Gs47 pcs47 => h_Kn ?_)
      have Fs47 := (Gs47.mono (B := kf_v_number) rfl).tr Fs41
      rcases pcs47 with pcs47 | pcs47 | pcs47 | pcs47
      · refine h_iload_n (pc' := 68) rfl rfl rfl ?_
        exact h_iret rfl rfl (kk _ _ ci_0 _ Is47 Fs47 (by omega) (by omega) (by omega) (Or.inr (Or.inl ⟨by omega, by omega, by omega⟩)))
      · exfalso; omega
      · exfalso; omega
      · exfalso; omega
def kf_v_oneHere : List Nat := [100360, 100365, 100366, 100367, 100368, 100369, 100370]
set_option maxHeartbeats 100000000 in
theorem v_oneHere {ns : Nat} (σ : h_S) (hI : h_I σ) {Q : Option Value → h_S → Prop} (kk : ∀ (r : Int32) (b : Int) (hb : r.toInt = b) (τ : h_S), h_I τ → h_F (k_in kf_v_oneHere) τ σ → (0 ≤ b ∧ b ≤ 99) → (b ≤ 5) → (((1 ≤ σ 98 13 ∧ σ 98 13 ≤ 6) ∧ (1 ≤ τ 98 13 ∧ τ 98 13 ≤ 6) ∧ (σ 98 15 ≤ τ 98 15)) ∨ ((σ 98 13 = 0) ∧ (1 ≤ τ 98 13 ∧ τ 98 13 ≤ 6) ∧ (σ 98 15 ≤ τ 98 15)) ∨ ((σ 98 13 = 0) ∧ (τ 98 13 = 0) ∧ (σ 98 15 ≤ τ 98 15))) → Q (some (.int r)) τ) : h_T g_P (g_Y ns) 150 0 [(0, .ref 98)] [] σ Q := by
  have F00 : h_F (k_in kf_v_oneHere) σ σ := h_F.rf
  have ge0 := tf_98_13 hI
  refine h_aload_n (pc' := 1) rfl rfl rfl ?_
  refine h_iconst (pc' := 2) (x := (Int32.ofInt 0)) rfl rfl rfl ?_
  refine h_iconst (pc' := 3) (x := (Int32.ofInt 5)) rfl rfl rfl ?_
  refine h_call (sp := false) (pc' := 6) (M := [(0, .ref 98), (1, .int (Int32.ofInt 0)), (2, .int (Int32.ofInt 5))]) rfl rfl rfl rfl rfl rfl rfl rfl ?_
  refine v_number _ hI  (Int32.ofInt 5) _ ci_5 (by omega) (fun r1 br1 hr1 s2 Is2 Gs2 tr1 ps2_0 ps2_1 pcs2 => h_Kv ?_)
  have Fs2 := (Gs2.mono (B := kf_v_oneHere) rfl).tr F00
  rcases pcs2 with pcs2 | pcs2 | pcs2
  · refine h_istore_n (pc' := 7) (M := [(1, .int r1), (0, .ref 98)]) rfl rfl rfl rfl ?_
    refine h_aload_n (pc' := 8) rfl rfl rfl ?_
    refine h_iload_n (pc' := 9) rfl rfl rfl ?_
    refine h_aload_n (pc' := 10) rfl rfl rfl ?_
    refine h_getI (pc' := 13) (v := s2 98 8) rfl rfl rfl rfl rfl rfl (fun z3 hz3 => ?_)
    have tz3 := tf_98_8 Is2
    refine h_cle (tg := 20) (pc' := 16) rfl rfl rfl hr1 hz3 (fun c4 => ?_) (fun c4 => ?_)
    · refine h_aload_n (pc' := 21) rfl rfl rfl ?_
      refine h_getI (pc' := 24) (v := s2 98 8) rfl rfl rfl rfl rfl rfl (fun z5 hz5 => ?_)
      have tz5 := tf_98_8 Is2
      refine h_put (pc' := 27) rfl rfl rfl rfl rfl rfl hz5 rfl (h_fgt (E := fun s => s 98 15 = s2 98 15 ∧ s 98 16 = s2 98 16 ∧ s 98 17 = s2 98 17 ∧ s 98 18 = s2 98 18 ∧ s 98 13 = s2 98 13) _ (if_98_8 Is2 (by omega)) (Fs2.up rfl) ⟨rfl, rfl, rfl, rfl, rfl⟩ (fun s6 Is6 Fs6 (es6 : s6 98 15 = s2 98 15 ∧ s6 98 16 = s2 98 16 ∧ s6 98 17 = s2 98 17 ∧ s6 98 18 = s2 98 18 ∧ s6 98 13 = s2 98 13) => ?_))
      refine h_iload_n (pc' := 28) rfl rfl rfl ?_
      exact h_iret rfl rfl (kk _ _ hr1 _ Is6 Fs6 (by omega) (by omega) (Or.inl ⟨by omega, by omega, by omega⟩))
    · refine h_iload_n (pc' := 17) rfl rfl rfl ?_
      refine h_goto (pc' := 24) rfl rfl ?_
      refine h_put (pc' := 27) rfl rfl rfl rfl rfl rfl hr1 rfl (h_fgt (E := fun s => s 98 15 = s2 98 15 ∧ s 98 16 = s2 98 16 ∧ s 98 17 = s2 98 17 ∧ s 98 18 = s2 98 18 ∧ s 98 13 = s2 98 13) _ (if_98_8 Is2 (by omega)) (Fs2.up rfl) ⟨rfl, rfl, rfl, rfl, rfl⟩ (fun s7 Is7 Fs7 (es7 : s7 98 15 = s2 98 15 ∧ s7 98 16 = s2 98 16 ∧ s7 98 17 = s2 98 17 ∧ s7 98 18 = s2 98 18 ∧ s7 98 13 = s2 98 13) => ?_))
      refine h_iload_n (pc' := 28) rfl rfl rfl ?_
      exact h_iret rfl rfl (kk _ _ hr1 _ Is7 Fs7 (by omega) (by omega) (Or.inl ⟨by omega, by omega, by omega⟩))
  · refine h_istore_n (pc' := 7) (M := [(1, .int r1), (0, .ref 98)]) rfl rfl rfl rfl ?_
    refine h_aload_n (pc' := 8) rfl rfl rfl ?_
    refine h_iload_n (pc' := 9) rfl rfl rfl ?_
    refine h_aload_n (pc' := 10) rfl rfl rfl ?_
    refine h_getI (pc' := 13) (v := s2 98 8) rfl rfl rfl rfl rfl rfl (fun z8 hz8 => ?_)
    have tz8 := tf_98_8 Is2
    refine h_cle (tg := 20) (pc' := 16) rfl rfl rfl hr1 hz8 (fun c9 => ?_) (fun c9 => ?_)
    · refine h_aload_n (pc' := 21) rfl rfl rfl ?_
      refine h_getI (pc' := 24) (v := s2 98 8) rfl rfl rfl rfl rfl rfl (fun z10 hz10 => ?_)
      have tz10 := tf_98_8 Is2
      refine h_put (pc' := 27) rfl rfl rfl rfl rfl rfl hz10 rfl (h_fgt (E := fun s => s 98 15 = s2 98 15 ∧ s 98 16 = s2 98 16 ∧ s 98 17 = s2 98 17 ∧ s 98 18 = s2 98 18 ∧ s 98 13 = s2 98 13) _ (if_98_8 Is2 (by omega)) (Fs2.up rfl) ⟨rfl, rfl, rfl, rfl, rfl⟩ (fun s11 Is11 Fs11 (es11 : s11 98 15 = s2 98 15 ∧ s11 98 16 = s2 98 16 ∧ s11 98 17 = s2 98 17 ∧ s11 98 18 = s2 98 18 ∧ s11 98 13 = s2 98 13) => ?_))
      refine h_iload_n (pc' := 28) rfl rfl rfl ?_
      exact h_iret rfl rfl (kk _ _ hr1 _ Is11 Fs11 (by omega) (by omega) (Or.inr (Or.inl ⟨by omega, by omega, by omega⟩)))
    · refine h_iload_n (pc' := 17) rfl rfl rfl ?_
      refine h_goto (pc' := 24) rfl rfl ?_
      refine h_put (pc' := 27) rfl rfl rfl rfl rfl rfl hr1 rfl (h_fgt (E := fun s => s 98 15 = s2 98 15 ∧ s 98 16 = s2 98 16 ∧ s 98 17 = s2 98 17 ∧ s 98 18 = s2 98 18 ∧ s 98 13 = s2 98 13) _ (if_98_8 Is2 (by omega)) (Fs2.up rfl) ⟨rfl, rfl, rfl, rfl, rfl⟩ (fun s12 Is12 Fs12 (es12 : s12 98 15 = s2 98 15 ∧ s12 98 16 = s2 98 16 ∧ s12 98 17 = s2 98 17 ∧ s12 98 18 = s2 98 18 ∧ s12 98 13 = s2 98 13) => ?_))
      refine h_iload_n (pc' := 28) rfl rfl rfl ?_
      exact h_iret rfl rfl (kk _ _ hr1 _ Is12 Fs12 (by omega) (by omega) (Or.inr (Or.inl ⟨by omega, by omega, by omega⟩)))
  · refine h_istore_n (pc' := 7) (M := [(1, .int r1), (0, .ref 98)]) rfl rfl rfl rfl ?_
    refine h_aload_n (pc' := 8) rfl rfl rfl ?_
    refine h_iload_n (pc' := 9) rfl rfl rfl ?_
    refine h_aload_n (pc' := 10) rfl rfl rfl ?_
    refine h_getI (pc' := 13) (v := s2 98 8) rfl rfl rfl rfl rfl rfl (fun z13 hz13 => ?_)
    have tz13 := tf_98_8 Is2
    refine h_cle (tg := 20) (pc' := 16) rfl rfl rfl hr1 hz13 (fun c14 => ?_) (fun c14 => ?_)
    · refine h_aload_n (pc' := 21) rfl rfl rfl ?_
      refine h_getI (pc' := 24) (v := s2 98 8) rfl rfl rfl rfl rfl rfl (fun z15 hz15 => ?_)
      have tz15 := tf_98_8 Is2
      refine h_put (pc' := 27) rfl rfl rfl rfl rfl rfl hz15 rfl (h_fgt (E := fun s => s 98 15 = s2 98 15 ∧ s 98 16 = s2 98 16 ∧ s 98 17 = s2 98 17 ∧ s 98 18 = s2 98 18 ∧ s 98 13 = s2 98 13) _ (if_98_8 Is2 (by omega)) (Fs2.up rfl) ⟨rfl, rfl, rfl, rfl, rfl⟩ (fun s16 Is16 Fs16 (es16 : s16 98 15 = s2 98 15 ∧ s16 98 16 = s2 98 16 ∧ s16 98 17 = s2 98 17 ∧ s16 98 18 = s2 98 18 ∧ s16 98 13 = s2 98 13) => ?_))
      refine h_iload_n (pc' := 28) rfl rfl rfl ?_
      exact h_iret rfl rfl (kk _ _ hr1 _ Is16 Fs16 (by omega) (by omega) (Or.inr (Or.inr ⟨by omega, by omega, by omega⟩)))
    · refine h_iload_n (pc' := 17) rfl rfl rfl ?_
      refine h_goto (pc' := 24) rfl rfl ?_
      refine h_put (pc' := 27) rfl rfl rfl rfl rfl rfl hr1 rfl (h_fgt (E := fun s => s 98 15 = s2 98 15 ∧ s 98 16 = s2 98 16 ∧ s 98 17 = s2 98 17 ∧ s 98 18 = s2 98 18 ∧ s 98 13 = s2 98 13) _ (if_98_8 Is2 (by omega)) (Fs2.up rfl) ⟨rfl, rfl, rfl, rfl, rfl⟩ (fun s17 Is17 Fs17 (es17 : s17 98 15 = s2 98 15 ∧ s17 98 16 = s2 98 16 ∧ s17 98 17 = s2 98 17 ∧ s17 98 18 = s2 98 18 ∧ s17 98 13 = s2 98 13) => ?_))
      refine h_iload_n (pc' := 28) rfl rfl rfl ?_
      exact h_iret rfl rfl (kk _ _ hr1 _ Is17 Fs17 (by omega) (by omega) (Or.inr (Or.inr ⟨by omega, by omega, by omega⟩)))
def kf_v_readPair12 : List Nat := [100360, 100365, 100366, 100367, 100368, 100369, 100370, 104447]
set_option maxHeartbeats 100000000 in
theorem v_readPair12 {ns : Nat} (σ : h_S) (hI : h_I σ) (x1 : Int32) (a1 : Int) (hx1 : x1.toInt = a1) (ra1 : 0 ≤ a1 ∧ a1 ≤ 2) (pr0 : σ 101 18 ≤ 2) {Q : Option Value → h_S → Prop} (kk : ∀ (τ : h_S), h_I τ → h_F (k_in kf_v_readPair12) τ σ → (((1 ≤ σ 98 13 ∧ σ 98 13 ≤ 6) ∧ (1 ≤ τ 98 13 ∧ τ 98 13 ≤ 6) ∧ (σ 98 15 ≤ τ 98 15)) ∨ ((σ 98 13 = 0) ∧ (1 ≤ τ 98 13 ∧ τ 98 13 ≤ 6) ∧ (σ 98 15 ≤ τ 98 15)) ∨ ((σ 98 13 = 0) ∧ (τ 98 13 = 0) ∧ (σ 98 15 ≤ τ 98 15))) → Q none τ) : h_T g_P (g_Y ns) 151 0 [(0, .ref 98), (1, .int (Int32.ofInt 12)), (2, .int x1)] [] σ Q := by
  have F00 : h_F (k_in kf_v_readPair12) σ σ := h_F.rf
  have ge0 := tf_98_13 hI
  refine h_aload_n (pc' := 1) rfl rfl rfl ?_
  refine h_call (sp := false) (pc' := 4) (M := [(0, .ref 98)]) rfl rfl rfl rfl rfl rfl rfl rfl ?_
  refine v_oneHere _ hI  (fun r1 br1 hr1 s2 Is2 Gs2 tr1 ps2_0 pcs2 => h_Kv ?_)
  have Fs2 := (Gs2.mono (B := kf_v_readPair12) rfl).tr F00
  have es2_5 : s2 101 18 = σ 101 18 := (Gs2 101 18 rfl).trans rfl
  rcases pcs2 with pcs2 | pcs2 | pcs2
  · refine h_istore_n (pc' := 5) (M := [(3, .int r1), (0, .ref 98), (1, .int (Int32.ofInt 12)), (2, .int x1)]) rfl rfl rfl rfl ?_
    refine h_aload_n (pc' := 6) rfl rfl rfl ?_
    refine h_getI (pc' := 9) (v := s2 98 13) rfl rfl rfl rfl rfl rfl (fun z3 hz3 => ?_)
    have tz3 := tf_98_13 Is2
    refine h_zne (tg := 33) (pc' := 12) rfl rfl rfl hz3 (fun c4 => ?_) (fun c4 => absurd c4 (by omega))
    refine h_aload_n (pc' := 34) rfl rfl rfl ?_
    refine h_getR (pc' := 37) rfl rfl rfl rfl rfl ?_
    refine h_iload_n (pc' := 38) rfl rfl rfl ?_
    refine h_iconst (pc' := 39) (x := (Int32.ofInt 2)) rfl rfl rfl ?_
    refine h_iload_n (pc' := 40) rfl rfl rfl ?_
    refine h_imul (pc' := 41) rfl rfl ci_2 hx1 rfl (by omega) (by omega) (fun z5 hz5 => ?_)
    refine h_iadd (pc' := 42) rfl rfl ci_12 hz5 rfl (by omega) (by omega) (fun z6 hz6 => ?_)
    refine h_iload_n (pc' := 43) rfl rfl rfl ?_
    refine h_iast (pc' := 44) rfl rfl rfl rfl hz6 (by omega) (by omega) hr1 (h_fgt (E := fun s => s 98 15 = s2 98 15 ∧ s 98 16 = s2 98 16 ∧ s 98 17 = s2 98 17 ∧ s 98 18 = s2 98 18 ∧ s 98 13 = s2 98 13 ∧ s 101 18 = σ 101 18) _ (ip_101_2 Is2 (by omega) (by omega)) (Fs2.up rfl) ⟨rfl, rfl, rfl, rfl, rfl, h_up_n2 (by omega) es2_5⟩ (fun s7 Is7 Fs7 (es7 : s7 98 15 = s2 98 15 ∧ s7 98 16 = s2 98 16 ∧ s7 98 17 = s2 98 17 ∧ s7 98 18 = s2 98 18 ∧ s7 98 13 = s2 98 13 ∧ s7 101 18 = σ 101 18) => ?_))
    clear es2_5
    refine h_aload_n (pc' := 45) rfl rfl rfl ?_
    refine h_getR (pc' := 48) rfl rfl rfl rfl rfl ?_
    refine h_iload_n (pc' := 49) rfl rfl rfl ?_
    refine h_iconst (pc' := 50) (x := (Int32.ofInt 2)) rfl rfl rfl ?_
    refine h_iload_n (pc' := 51) rfl rfl rfl ?_
    refine h_imul (pc' := 52) rfl rfl ci_2 hx1 rfl (by omega) (by omega) (fun z8 hz8 => ?_)
    refine h_iadd (pc' := 53) rfl rfl ci_12 hz8 rfl (by omega) (by omega) (fun z9 hz9 => ?_)
    refine h_iconst (pc' := 54) (x := (Int32.ofInt 1)) rfl rfl rfl ?_
    refine h_iadd (pc' := 55) rfl rfl hz9 ci_1 rfl (by omega) (by omega) (fun z10 hz10 => ?_)
    refine h_aload_n (pc' := 56) rfl rfl rfl ?_
    refine h_call (sp := false) (pc' := 59) (M := [(0, .ref 98)]) rfl rfl rfl rfl rfl rfl rfl rfl ?_
    refine v_oneHere _ Is7  (fun r11 br11 hr11 s12 Is12 Gs12 tr11 ps12_0 pcs12 => h_Kv ?_)
    have Fs12 := (Gs12.mono (B := kf_v_readPair12) rfl).tr Fs7
    have es12_5 : s12 101 18 = σ 101 18 := (Gs12 101 18 rfl).trans es7.2.2.2.2.2
    rcases pcs12 with pcs12 | pcs12 | pcs12
    · refine h_iast (pc' := 60) rfl rfl rfl rfl hz10 (by omega) (by omega) hr11 (h_fgt (E := fun s => s 98 15 = s12 98 15 ∧ s 98 16 = s12 98 16 ∧ s 98 17 = s12 98 17 ∧ s 98 18 = s12 98 18 ∧ s 98 13 = s12 98 13 ∧ s 101 18 = σ 101 18) _ (ip_101_2 Is12 (by omega) (by omega)) (Fs12.up rfl) ⟨rfl, rfl, rfl, rfl, rfl, h_up_n2 (by omega) es12_5⟩ (fun s13 Is13 Fs13 (es13 : s13 98 15 = s12 98 15 ∧ s13 98 16 = s12 98 16 ∧ s13 98 17 = s12 98 17 ∧ s13 98 18 = s12 98 18 ∧ s13 98 13 = s12 98 13 ∧ s13 101 18 = σ 101 18) => ?_))
      clear es12_5
      refine h_aload_n (pc' := 61) rfl rfl rfl ?_
      refine h_getR (pc' := 64) rfl rfl rfl rfl rfl ?_
      refine h_iload_n (pc' := 65) rfl rfl rfl ?_
      refine h_bipush (pc' := 67) (x := (Int32.ofInt 6)) rfl rfl cb_6 ?_
      refine h_iadd (pc' := 68) (c := 18) rfl rfl ci_12 ci_6 rfl (by omega) (by omega) (fun z14 hz14 => ?_)
      refine h_dup2 (pc' := 69) rfl rfl rfl ?_
      refine h_iald (pc' := 70) (v := σ 101 18) rfl rfl rfl hz14 (by omega) (by omega) es13.2.2.2.2.2 (fun z15 hz15 => ?_)
      have tz15 := ty_101_3 hI 18 (by omega)
      refine h_iconst (pc' := 71) (x := (Int32.ofInt 1)) rfl rfl rfl ?_
      refine h_iadd (pc' := 72) rfl rfl hz15 ci_1 rfl (by omega) (by omega) (fun z16 hz16 => ?_)
      refine h_iast (pc' := 73) rfl rfl rfl rfl hz14 (by omega) (by omega) hz16 (h_fgt (E := fun s => s 98 15 = s12 98 15 ∧ s 98 16 = s12 98 16 ∧ s 98 17 = s12 98 17 ∧ s 98 18 = s12 98 18 ∧ s 98 13 = s12 98 13 ∧ s 101 18 = ((σ 101 18) + 1)) _ (ip_101_3 Is13 (by omega) (by omega)) (Fs13.up rfl) ⟨es13.1, es13.2.1, es13.2.2.1, es13.2.2.2.1, es13.2.2.2.2.1, rfl⟩ (fun s17 Is17 Fs17 (es17 : s17 98 15 = s12 98 15 ∧ s17 98 16 = s12 98 16 ∧ s17 98 17 = s12 98 17 ∧ s17 98 18 = s12 98 18 ∧ s17 98 13 = s12 98 13 ∧ s17 101 18 = ((σ 101 18) + 1)) => ?_))
      clear es13
      exact h_vret rfl rfl (kk _ Is17 Fs17 (Or.inl ⟨by omega, by omega, by omega⟩))
    · exfalso; omega
    · exfalso; omega
  · refine h_istore_n (pc' := 5) (M := [(3, .int r1), (0, .ref 98), (1, .int (Int32.ofInt 12)), (2, .int x1)]) rfl rfl rfl rfl ?_
    refine h_aload_n (pc' := 6) rfl rfl rfl ?_
    refine h_getI (pc' := 9) (v := s2 98 13) rfl rfl rfl rfl rfl rfl (fun z18 hz18 => ?_)
    have tz18 := tf_98_13 Is2
    refine h_zne (tg := 33) (pc' := 12) rfl rfl rfl hz18 (fun c19 => ?_) (fun c19 => absurd c19 (by omega))
    refine h_aload_n (pc' := 34) rfl rfl rfl ?_
    refine h_getR (pc' := 37) rfl rfl rfl rfl rfl ?_
    refine h_iload_n (pc' := 38) rfl rfl rfl ?_
    refine h_iconst (pc' := 39) (x := (Int32.ofInt 2)) rfl rfl rfl ?_
    refine h_iload_n (pc' := 40) rfl rfl rfl ?_
    refine h_imul (pc' := 41) rfl rfl ci_2 hx1 rfl (by omega) (by omega) (fun z20 hz20 => ?_)
    refine h_iadd (pc' := 42) rfl rfl ci_12 hz20 rfl (by omega) (by omega) (fun z21 hz21 => ?_)
    refine h_iload_n (pc' := 43) rfl rfl rfl ?_
    refine h_iast (pc' := 44) rfl rfl rfl rfl hz21 (by omega) (by omega) hr1 (h_fgt (E := fun s => s 98 15 = s2 98 15 ∧ s 98 16 = s2 98 16 ∧ s 98 17 = s2 98 17 ∧ s 98 18 = s2 98 18 ∧ s 98 13 = s2 98 13 ∧ s 101 18 = σ 101 18) _ (ip_101_2 Is2 (by omega) (by omega)) (Fs2.up rfl) ⟨rfl, rfl, rfl, rfl, rfl, h_up_n2 (by omega) es2_5⟩ (fun s22 Is22 Fs22 (es22 : s22 98 15 = s2 98 15 ∧ s22 98 16 = s2 98 16 ∧ s22 98 17 = s2 98 17 ∧ s22 98 18 = s2 98 18 ∧ s22 98 13 = s2 98 13 ∧ s22 101 18 = σ 101 18) => ?_))
    clear es2_5
    refine h_aload_n (pc' := 45) rfl rfl rfl ?_
    refine h_getR (pc' := 48) rfl rfl rfl rfl rfl ?_
    refine h_iload_n (pc' := 49) rfl rfl rfl ?_
    refine h_iconst (pc' := 50) (x := (Int32.ofInt 2)) rfl rfl rfl ?_
    refine h_iload_n (pc' := 51) rfl rfl rfl ?_
    refine h_imul (pc' := 52) rfl rfl ci_2 hx1 rfl (by omega) (by omega) (fun z23 hz23 => ?_)
    refine h_iadd (pc' := 53) rfl rfl ci_12 hz23 rfl (by omega) (by omega) (fun z24 hz24 => ?_)
    refine h_iconst (pc' := 54) (x := (Int32.ofInt 1)) rfl rfl rfl ?_
    refine h_iadd (pc' := 55) rfl rfl hz24 ci_1 rfl (by omega) (by omega) (fun z25 hz25 => ?_)
    refine h_aload_n (pc' := 56) rfl rfl rfl ?_
    refine h_call (sp := false) (pc' := 59) (M := [(0, .ref 98)]) rfl rfl rfl rfl rfl rfl rfl rfl ?_
    refine v_oneHere _ Is22  (fun r26 br26 hr26 s27 Is27 Gs27 tr26 ps27_0 pcs27 => h_Kv ?_)
    have Fs27 := (Gs27.mono (B := kf_v_readPair12) rfl).tr Fs22
    have es27_5 : s27 101 18 = σ 101 18 := (Gs27 101 18 rfl).trans es22.2.2.2.2.2
    rcases pcs27 with pcs27 | pcs27 | pcs27
    · refine h_iast (pc' := 60) rfl rfl rfl rfl hz25 (by omega) (by omega) hr26 (h_fgt (E := fun s => s 98 15 = s27 98 15 ∧ s 98 16 = s27 98 16 ∧ s 98 17 = s27 98 17 ∧ s 98 18 = s27 98 18 ∧ s 98 13 = s27 98 13 ∧ s 101 18 = σ 101 18) _ (ip_101_2 Is27 (by omega) (by omega)) (Fs27.up rfl) ⟨rfl, rfl, rfl, rfl, rfl, h_up_n2 (by omega) es27_5⟩ (fun s28 Is28 Fs28 (es28 : s28 98 15 = s27 98 15 ∧ s28 98 16 = s27 98 16 ∧ s28 98 17 = s27 98 17 ∧ s28 98 18 = s27 98 18 ∧ s28 98 13 = s27 98 13 ∧ s28 101 18 = σ 101 18) => ?_))
      clear es27_5
      refine h_aload_n (pc' := 61) rfl rfl rfl ?_
      refine h_getR (pc' := 64) rfl rfl rfl rfl rfl ?_
      refine h_iload_n (pc' := 65) rfl rfl rfl ?_
      refine h_bipush (pc' := 67) (x := (Int32.ofInt 6)) rfl rfl cb_6 ?_
      refine h_iadd (pc' := 68) (c := 18) rfl rfl ci_12 ci_6 rfl (by omega) (by omega) (fun z29 hz29 => ?_)
      refine h_dup2 (pc' := 69) rfl rfl rfl ?_
      refine h_iald (pc' := 70) (v := σ 101 18) rfl rfl rfl hz29 (by omega) (by omega) es28.2.2.2.2.2 (fun z30 hz30 => ?_)
      have tz30 := ty_101_3 hI 18 (by omega)
      refine h_iconst (pc' := 71) (x := (Int32.ofInt 1)) rfl rfl rfl ?_
      refine h_iadd (pc' := 72) rfl rfl hz30 ci_1 rfl (by omega) (by omega) (fun z31 hz31 => ?_)
      refine h_iast (pc' := 73) rfl rfl rfl rfl hz29 (by omega) (by omega) hz31 (h_fgt (E := fun s => s 98 15 = s27 98 15 ∧ s 98 16 = s27 98 16 ∧ s 98 17 = s27 98 17 ∧ s 98 18 = s27 98 18 ∧ s 98 13 = s27 98 13 ∧ s 101 18 = ((σ 101 18) + 1)) _ (ip_101_3 Is28 (by omega) (by omega)) (Fs28.up rfl) ⟨es28.1, es28.2.1, es28.2.2.1, es28.2.2.2.1, es28.2.2.2.2.1, rfl⟩ (fun s32 Is32 Fs32 (es32 : s32 98 15 = s27 98 15 ∧ s32 98 16 = s27 98 16 ∧ s32 98 17 = s27 98 17 ∧ s32 98 18 = s27 98 18 ∧ s32 98 13 = s27 98 13 ∧ s32 101 18 = ((σ 101 18) + 1)) => ?_))
      clear es28
      exact h_vret rfl rfl (kk _ Is32 Fs32 (Or.inr (Or.inl ⟨by omega, by omega, by omega⟩)))
    · exfalso; omega
    · exfalso; omega
  · refine h_istore_n (pc' := 5) (M := [(3, .int r1), (0, .ref 98), (1, .int (Int32.ofInt 12)), (2, .int x1)]) rfl rfl rfl rfl ?_
    refine h_aload_n (pc' := 6) rfl rfl rfl ?_
    refine h_getI (pc' := 9) (v := s2 98 13) rfl rfl rfl rfl rfl rfl (fun z33 hz33 => ?_)
    have tz33 := tf_98_13 Is2
    refine h_zne (tg := 33) (pc' := 12) rfl rfl rfl hz33 (fun c34 => absurd c34 (by omega)) (fun c34 => ?_)
    refine h_aload_n (pc' := 13) rfl rfl rfl ?_
    refine h_getI (pc' := 16) (v := s2 98 17) rfl rfl rfl rfl rfl rfl (fun z35 hz35 => ?_)
    have tz35 := tf_98_17 Is2
    refine h_iconst (pc' := 17) (x := (Int32.ofInt 2)) rfl rfl rfl ?_
    refine h_cne (tg := 33) (pc' := 20) rfl rfl rfl hz35 ci_2 (fun c36 => ?_) (fun c36 => ?_)
    · refine h_aload_n (pc' := 34) rfl rfl rfl ?_
      refine h_getR (pc' := 37) rfl rfl rfl rfl rfl ?_
      refine h_iload_n (pc' := 38) rfl rfl rfl ?_
      refine h_iconst (pc' := 39) (x := (Int32.ofInt 2)) rfl rfl rfl ?_
      refine h_iload_n (pc' := 40) rfl rfl rfl ?_
      refine h_imul (pc' := 41) rfl rfl ci_2 hx1 rfl (by omega) (by omega) (fun z37 hz37 => ?_)
      refine h_iadd (pc' := 42) rfl rfl ci_12 hz37 rfl (by omega) (by omega) (fun z38 hz38 => ?_)
      refine h_iload_n (pc' := 43) rfl rfl rfl ?_
      refine h_iast (pc' := 44) rfl rfl rfl rfl hz38 (by omega) (by omega) hr1 (h_fgt (E := fun s => s 98 15 = s2 98 15 ∧ s 98 16 = s2 98 16 ∧ s 98 17 = s2 98 17 ∧ s 98 18 = s2 98 18 ∧ s 98 13 = s2 98 13 ∧ s 101 18 = σ 101 18) _ (ip_101_2 Is2 (by omega) (by omega)) (Fs2.up rfl) ⟨rfl, rfl, rfl, rfl, rfl, h_up_n2 (by omega) es2_5⟩ (fun s39 Is39 Fs39 (es39 : s39 98 15 = s2 98 15 ∧ s39 98 16 = s2 98 16 ∧ s39 98 17 = s2 98 17 ∧ s39 98 18 = s2 98 18 ∧ s39 98 13 = s2 98 13 ∧ s39 101 18 = σ 101 18) => ?_))
      clear es2_5
      refine h_aload_n (pc' := 45) rfl rfl rfl ?_
      refine h_getR (pc' := 48) rfl rfl rfl rfl rfl ?_
      refine h_iload_n (pc' := 49) rfl rfl rfl ?_
      refine h_iconst (pc' := 50) (x := (Int32.ofInt 2)) rfl rfl rfl ?_
      refine h_iload_n (pc' := 51) rfl rfl rfl ?_
      refine h_imul (pc' := 52) rfl rfl ci_2 hx1 rfl (by omega) (by omega) (fun z40 hz40 => ?_)
      refine h_iadd (pc' := 53) rfl rfl ci_12 hz40 rfl (by omega) (by omega) (fun z41 hz41 => ?_)
      refine h_iconst (pc' := 54) (x := (Int32.ofInt 1)) rfl rfl rfl ?_
      refine h_iadd (pc' := 55) rfl rfl hz41 ci_1 rfl (by omega) (by omega) (fun z42 hz42 => ?_)
      refine h_aload_n (pc' := 56) rfl rfl rfl ?_
      refine h_call (sp := false) (pc' := 59) (M := [(0, .ref 98)]) rfl rfl rfl rfl rfl rfl rfl rfl ?_
      refine v_oneHere _ Is39  (fun r43 br43 hr43 s44 Is44 Gs44 tr43 ps44_0 pcs44 => h_Kv ?_)
      have Fs44 := (Gs44.mono (B := kf_v_readPair12) rfl).tr Fs39
      have es44_5 : s44 101 18 = σ 101 18 := (Gs44 101 18 rfl).trans es39.2.2.2.2.2
      rcases pcs44 with pcs44 | pcs44 | pcs44
      · exfalso; omega
      · refine h_iast (pc' := 60) rfl rfl rfl rfl hz42 (by omega) (by omega) hr43 (h_fgt (E := fun s => s 98 15 = s44 98 15 ∧ s 98 16 = s44 98 16 ∧ s 98 17 = s44 98 17 ∧ s 98 18 = s44 98 18 ∧ s 98 13 = s44 98 13 ∧ s 101 18 = σ 101 18) _ (ip_101_2 Is44 (by omega) (by omega)) (Fs44.up rfl) ⟨rfl, rfl, rfl, rfl, rfl, h_up_n2 (by omega) es44_5⟩ (fun s45 Is45 Fs45 (es45 : s45 98 15 = s44 98 15 ∧ s45 98 16 = s44 98 16 ∧ s45 98 17 = s44 98 17 ∧ s45 98 18 = s44 98 18 ∧ s45 98 13 = s44 98 13 ∧ s45 101 18 = σ 101 18) => ?_))
        clear es44_5
        refine h_aload_n (pc' := 61) rfl rfl rfl ?_
        refine h_getR (pc' := 64) rfl rfl rfl rfl rfl ?_
        refine h_iload_n (pc' := 65) rfl rfl rfl ?_
        refine h_bipush (pc' := 67) (x := (Int32.ofInt 6)) rfl rfl cb_6 ?_
        refine h_iadd (pc' := 68) (c := 18) rfl rfl ci_12 ci_6 rfl (by omega) (by omega) (fun z46 hz46 => ?_)
        refine h_dup2 (pc' := 69) rfl rfl rfl ?_
        refine h_iald (pc' := 70) (v := σ 101 18) rfl rfl rfl hz46 (by omega) (by omega) es45.2.2.2.2.2 (fun z47 hz47 => ?_)
        have tz47 := ty_101_3 hI 18 (by omega)
        refine h_iconst (pc' := 71) (x := (Int32.ofInt 1)) rfl rfl rfl ?_
        refine h_iadd (pc' := 72) rfl rfl hz47 ci_1 rfl (by omega) (by omega) (fun z48 hz48 => ?_)
        refine h_iast (pc' := 73) rfl rfl rfl rfl hz46 (by omega) (by omega) hz48 (h_fgt (E := fun s => s 98 15 = s44 98 15 ∧ s 98 16 = s44 98 16 ∧ s 98 17 = s44 98 17 ∧ s 98 18 = s44 98 18 ∧ s 98 13 = s44 98 13 ∧ s 101 18 = ((σ 101 18) + 1)) _ (ip_101_3 Is45 (by omega) (by omega)) (Fs45.up rfl) ⟨es45.1, es45.2.1, es45.2.2.1, es45.2.2.2.1, es45.2.2.2.2.1, rfl⟩ (fun s49 Is49 Fs49 (es49 : s49 98 15 = s44 98 15 ∧ s49 98 16 = s44 98 16 ∧ s49 98 17 = s44 98 17 ∧ s49 98 18 = s44 98 18 ∧ s49 98 13 = s44 98 13 ∧ s49 101 18 = ((σ 101 18) + 1)) => ?_))
        clear es45
        exact h_vret rfl rfl (kk _ Is49 Fs49 (Or.inr (Or.inl ⟨by omega, by omega, by omega⟩)))
      · refine h_iast (pc' := 60) rfl rfl rfl rfl hz42 (by omega) (by omega) hr43 (h_fgt (E := fun s => s 98 15 = s44 98 15 ∧ s 98 16 = s44 98 16 ∧ s 98 17 = s44 98 17 ∧ s 98 18 = s44 98 18 ∧ s 98 13 = s44 98 13 ∧ s 101 18 = σ 101 18) _ (ip_101_2 Is44 (by omega) (by omega)) (Fs44.up rfl) ⟨rfl, rfl, rfl, rfl, rfl, h_up_n2 (by omega) es44_5⟩ (fun s50 Is50 Fs50 (es50 : s50 98 15 = s44 98 15 ∧ s50 98 16 = s44 98 16 ∧ s50 98 17 = s44 98 17 ∧ s50 98 18 = s44 98 18 ∧ s50 98 13 = s44 98 13 ∧ s50 101 18 = σ 101 18) => ?_))
        clear es44_5
        refine h_aload_n (pc' := 61) rfl rfl rfl ?_
        refine h_getR (pc' := 64) rfl rfl rfl rfl rfl ?_
        refine h_iload_n (pc' := 65) rfl rfl rfl ?_
        refine h_bipush (pc' := 67) (x := (Int32.ofInt 6)) rfl rfl cb_6 ?_
        refine h_iadd (pc' := 68) (c := 18) rfl rfl ci_12 ci_6 rfl (by omega) (by omega) (fun z51 hz51 => ?_)
        refine h_dup2 (pc' := 69) rfl rfl rfl ?_
        refine h_iald (pc' := 70) (v := σ 101 18) rfl rfl rfl hz51 (by omega) (by omega) es50.2.2.2.2.2 (fun z52 hz52 => ?_)
        have tz52 := ty_101_3 hI 18 (by omega)
        refine h_iconst (pc' := 71) (x := (Int32.ofInt 1)) rfl rfl rfl ?_
        refine h_iadd (pc' := 72) rfl rfl hz52 ci_1 rfl (by omega) (by omega) (fun z53 hz53 => ?_)
        refine h_iast (pc' := 73) rfl rfl rfl rfl hz51 (by omega) (by omega) hz53 (h_fgt (E := fun s => s 98 15 = s44 98 15 ∧ s 98 16 = s44 98 16 ∧ s 98 17 = s44 98 17 ∧ s 98 18 = s44 98 18 ∧ s 98 13 = s44 98 13 ∧ s 101 18 = ((σ 101 18) + 1)) _ (ip_101_3 Is50 (by omega) (by omega)) (Fs50.up rfl) ⟨es50.1, es50.2.1, es50.2.2.1, es50.2.2.2.1, es50.2.2.2.2.1, rfl⟩ (fun s54 Is54 Fs54 (es54 : s54 98 15 = s44 98 15 ∧ s54 98 16 = s44 98 16 ∧ s54 98 17 = s44 98 17 ∧ s54 98 18 = s44 98 18 ∧ s54 98 13 = s44 98 13 ∧ s54 101 18 = ((σ 101 18) + 1)) => ?_))
        clear es50
        exact h_vret rfl rfl (kk _ Is54 Fs54 (Or.inr (Or.inr ⟨by omega, by omega, by omega⟩)))
    · refine h_aload_n (pc' := 21) rfl rfl rfl ?_
      refine h_getI (pc' := 24) (v := s2 98 18) rfl rfl rfl rfl rfl rfl (fun z55 hz55 => ?_)
      have tz55 := tf_98_18 Is2
      refine h_iload_n (pc' := 25) rfl rfl rfl ?_
      refine h_cne (tg := 33) (pc' := 28) rfl rfl rfl hz55 hr1 (fun c56 => ?_) (fun c56 => ?_)
      · refine h_aload_n (pc' := 34) rfl rfl rfl ?_
        refine h_getR (pc' := 37) rfl rfl rfl rfl rfl ?_
        refine h_iload_n (pc' := 38) rfl rfl rfl ?_
        refine h_iconst (pc' := 39) (x := (Int32.ofInt 2)) rfl rfl rfl ?_
        refine h_iload_n (pc' := 40) rfl rfl rfl ?_
        refine h_imul (pc' := 41) rfl rfl ci_2 hx1 rfl (by omega) (by omega) (fun z57 hz57 => ?_)
        refine h_iadd (pc' := 42) rfl rfl ci_12 hz57 rfl (by omega) (by omega) (fun z58 hz58 => ?_)
        refine h_iload_n (pc' := 43) rfl rfl rfl ?_
        refine h_iast (pc' := 44) rfl rfl rfl rfl hz58 (by omega) (by omega) hr1 (h_fgt (E := fun s => s 98 15 = s2 98 15 ∧ s 98 16 = s2 98 16 ∧ s 98 17 = s2 98 17 ∧ s 98 18 = s2 98 18 ∧ s 98 13 = s2 98 13 ∧ s 101 18 = σ 101 18) _ (ip_101_2 Is2 (by omega) (by omega)) (Fs2.up rfl) ⟨rfl, rfl, rfl, rfl, rfl, h_up_n2 (by omega) es2_5⟩ (fun s59 Is59 Fs59 (es59 : s59 98 15 = s2 98 15 ∧ s59 98 16 = s2 98 16 ∧ s59 98 17 = s2 98 17 ∧ s59 98 18 = s2 98 18 ∧ s59 98 13 = s2 98 13 ∧ s59 101 18 = σ 101 18) => ?_))
        clear es2_5
        refine h_aload_n (pc' := 45) rfl rfl rfl ?_
        refine h_getR (pc' := 48) rfl rfl rfl rfl rfl ?_
        refine h_iload_n (pc' := 49) rfl rfl rfl ?_
        refine h_iconst (pc' := 50) (x := (Int32.ofInt 2)) rfl rfl rfl ?_
        refine h_iload_n (pc' := 51) rfl rfl rfl ?_
        refine h_imul (pc' := 52) rfl rfl ci_2 hx1 rfl (by omega) (by omega) (fun z60 hz60 => ?_)
        refine h_iadd (pc' := 53) rfl rfl ci_12 hz60 rfl (by omega) (by omega) (fun z61 hz61 => ?_)
        refine h_iconst (pc' := 54) (x := (Int32.ofInt 1)) rfl rfl rfl ?_
        refine h_iadd (pc' := 55) rfl rfl hz61 ci_1 rfl (by omega) (by omega) (fun z62 hz62 => ?_)
        refine h_aload_n (pc' := 56) rfl rfl rfl ?_
        refine h_call (sp := false) (pc' := 59) (M := [(0, .ref 98)]) rfl rfl rfl rfl rfl rfl rfl rfl ?_
        refine v_oneHere _ Is59  (fun r63 br63 hr63 s64 Is64 Gs64 tr63 ps64_0 pcs64 => h_Kv ?_)
        have Fs64 := (Gs64.mono (B := kf_v_readPair12) rfl).tr Fs59
        have es64_5 : s64 101 18 = σ 101 18 := (Gs64 101 18 rfl).trans es59.2.2.2.2.2
        rcases pcs64 with pcs64 | pcs64 | pcs64
        · exfalso; omega
        · refine h_iast (pc' := 60) rfl rfl rfl rfl hz62 (by omega) (by omega) hr63 (h_fgt (E := fun s => s 98 15 = s64 98 15 ∧ s 98 16 = s64 98 16 ∧ s 98 17 = s64 98 17 ∧ s 98 18 = s64 98 18 ∧ s 98 13 = s64 98 13 ∧ s 101 18 = σ 101 18) _ (ip_101_2 Is64 (by omega) (by omega)) (Fs64.up rfl) ⟨rfl, rfl, rfl, rfl, rfl, h_up_n2 (by omega) es64_5⟩ (fun s65 Is65 Fs65 (es65 : s65 98 15 = s64 98 15 ∧ s65 98 16 = s64 98 16 ∧ s65 98 17 = s64 98 17 ∧ s65 98 18 = s64 98 18 ∧ s65 98 13 = s64 98 13 ∧ s65 101 18 = σ 101 18) => ?_))
          clear es64_5
          refine h_aload_n (pc' := 61) rfl rfl rfl ?_
          refine h_getR (pc' := 64) rfl rfl rfl rfl rfl ?_
          refine h_iload_n (pc' := 65) rfl rfl rfl ?_
          refine h_bipush (pc' := 67) (x := (Int32.ofInt 6)) rfl rfl cb_6 ?_
          refine h_iadd (pc' := 68) (c := 18) rfl rfl ci_12 ci_6 rfl (by omega) (by omega) (fun z66 hz66 => ?_)
          refine h_dup2 (pc' := 69) rfl rfl rfl ?_
          refine h_iald (pc' := 70) (v := σ 101 18) rfl rfl rfl hz66 (by omega) (by omega) es65.2.2.2.2.2 (fun z67 hz67 => ?_)
          have tz67 := ty_101_3 hI 18 (by omega)
          refine h_iconst (pc' := 71) (x := (Int32.ofInt 1)) rfl rfl rfl ?_
          refine h_iadd (pc' := 72) rfl rfl hz67 ci_1 rfl (by omega) (by omega) (fun z68 hz68 => ?_)
          refine h_iast (pc' := 73) rfl rfl rfl rfl hz66 (by omega) (by omega) hz68 (h_fgt (E := fun s => s 98 15 = s64 98 15 ∧ s 98 16 = s64 98 16 ∧ s 98 17 = s64 98 17 ∧ s 98 18 = s64 98 18 ∧ s 98 13 = s64 98 13 ∧ s 101 18 = ((σ 101 18) + 1)) _ (ip_101_3 Is65 (by omega) (by omega)) (Fs65.up rfl) ⟨es65.1, es65.2.1, es65.2.2.1, es65.2.2.2.1, es65.2.2.2.2.1, rfl⟩ (fun s69 Is69 Fs69 (es69 : s69 98 15 = s64 98 15 ∧ s69 98 16 = s64 98 16 ∧ s69 98 17 = s64 98 17 ∧ s69 98 18 = s64 98 18 ∧ s69 98 13 = s64 98 13 ∧ s69 101 18 = ((σ 101 18) + 1)) => ?_))
          clear es65
          exact h_vret rfl rfl (kk _ Is69 Fs69 (Or.inr (Or.inl ⟨by omega, by omega, by omega⟩)))
        · refine h_iast (pc' := 60) rfl rfl rfl rfl hz62 (by omega) (by omega) hr63 (h_fgt (E := fun s => s 98 15 = s64 98 15 ∧ s 98 16 = s64 98 16 ∧ s 98 17 = s64 98 17 ∧ s 98 18 = s64 98 18 ∧ s 98 13 = s64 98 13 ∧ s 101 18 = σ 101 18) _ (ip_101_2 Is64 (by omega) (by omega)) (Fs64.up rfl) ⟨rfl, rfl, rfl, rfl, rfl, h_up_n2 (by omega) es64_5⟩ (fun s70 Is70 Fs70 (es70 : s70 98 15 = s64 98 15 ∧ s70 98 16 = s64 98 16 ∧ s70 98 17 = s64 98 17 ∧ s70 98 18 = s64 98 18 ∧ s70 98 13 = s64 98 13 ∧ s70 101 18 = σ 101 18) => ?_))
          clear es64_5
          refine h_aload_n (pc' := 61) rfl rfl rfl ?_
          refine h_getR (pc' := 64) rfl rfl rfl rfl rfl ?_
          refine h_iload_n (pc' := 65) rfl rfl rfl ?_
          refine h_bipush (pc' := 67) (x := (Int32.ofInt 6)) rfl rfl cb_6 ?_
          refine h_iadd (pc' := 68) (c := 18) rfl rfl ci_12 ci_6 rfl (by omega) (by omega) (fun z71 hz71 => ?_)
          refine h_dup2 (pc' := 69) rfl rfl rfl ?_
          refine h_iald (pc' := 70) (v := σ 101 18) rfl rfl rfl hz71 (by omega) (by omega) es70.2.2.2.2.2 (fun z72 hz72 => ?_)
          have tz72 := ty_101_3 hI 18 (by omega)
          refine h_iconst (pc' := 71) (x := (Int32.ofInt 1)) rfl rfl rfl ?_
          refine h_iadd (pc' := 72) rfl rfl hz72 ci_1 rfl (by omega) (by omega) (fun z73 hz73 => ?_)
          refine h_iast (pc' := 73) rfl rfl rfl rfl hz71 (by omega) (by omega) hz73 (h_fgt (E := fun s => s 98 15 = s64 98 15 ∧ s 98 16 = s64 98 16 ∧ s 98 17 = s64 98 17 ∧ s 98 18 = s64 98 18 ∧ s 98 13 = s64 98 13 ∧ s 101 18 = ((σ 101 18) + 1)) _ (ip_101_3 Is70 (by omega) (by omega)) (Fs70.up rfl) ⟨es70.1, es70.2.1, es70.2.2.1, es70.2.2.2.1, es70.2.2.2.2.1, rfl⟩ (fun s74 Is74 Fs74 (es74 : s74 98 15 = s64 98 15 ∧ s74 98 16 = s64 98 16 ∧ s74 98 17 = s64 98 17 ∧ s74 98 18 = s64 98 18 ∧ s74 98 13 = s64 98 13 ∧ s74 101 18 = ((σ 101 18) + 1)) => ?_))
          clear es70
          exact h_vret rfl rfl (kk _ Is74 Fs74 (Or.inr (Or.inr ⟨by omega, by omega, by omega⟩)))
      · refine h_aload_n (pc' := 29) rfl rfl rfl ?_
        refine h_iconst (pc' := 30) (x := (Int32.ofInt 3)) rfl rfl rfl ?_
        refine h_call (sp := false) (pc' := 33) (M := [(0, .ref 98), (1, .int (Int32.ofInt 3))]) rfl rfl rfl rfl rfl rfl rfl rfl ?_
        refine h_aload_n (pc' := 1) rfl rfl rfl ?_
        refine h_getI (pc' := 4) (v := s2 98 13) rfl rfl rfl rfl rfl rfl (fun z75 hz75 => ?_)
        have tz75 := tf_98_13 Is2
        refine h_zne (tg := 20) (pc' := 7) rfl rfl rfl hz75 (fun c76 => absurd c76 (by omega)) (fun c76 => ?_)
        refine h_aload_n (pc' := 8) rfl rfl rfl ?_
        refine h_iload_n (pc' := 9) rfl rfl rfl ?_
        refine h_put (pc' := 12) rfl rfl rfl rfl rfl rfl ci_3 rfl (h_fgt (E := fun s => s 98 15 = s2 98 15 ∧ s 98 16 = s2 98 16 ∧ s 98 17 = s2 98 17 ∧ s 98 18 = s2 98 18 ∧ s 98 13 = 3 ∧ s 101 18 = σ 101 18) _ (if_98_13 Is2 (by omega)) (Fs2.up rfl) ⟨rfl, rfl, rfl, rfl, rfl, es2_5⟩ (fun s77 Is77 Fs77 (es77 : s77 98 15 = s2 98 15 ∧ s77 98 16 = s2 98 16 ∧ s77 98 17 = s2 98 17 ∧ s77 98 18 = s2 98 18 ∧ s77 98 13 = 3 ∧ s77 101 18 = σ 101 18) => ?_))
        clear es2_5
        refine h_aload_n (pc' := 13) rfl rfl rfl ?_
        refine h_aload_n (pc' := 14) rfl rfl rfl ?_
        refine h_getI (pc' := 17) (v := s2 98 16) rfl rfl rfl rfl rfl es77.2.1 (fun z78 hz78 => ?_)
        have tz78 := tf_98_16 Is2
        refine h_put (pc' := 20) rfl rfl rfl rfl rfl rfl hz78 rfl (h_fgt (E := fun s => s 98 15 = s2 98 15 ∧ s 98 16 = s2 98 16 ∧ s 98 17 = s2 98 17 ∧ s 98 18 = s2 98 18 ∧ s 98 13 = 3 ∧ s 101 18 = σ 101 18) _ (if_98_14 Is77 (h_rgv hz78)) (Fs77.up rfl) ⟨es77.1, es77.2.1, es77.2.2.1, es77.2.2.2.1, es77.2.2.2.2.1, es77.2.2.2.2.2⟩ (fun s79 Is79 Fs79 (es79 : s79 98 15 = s2 98 15 ∧ s79 98 16 = s2 98 16 ∧ s79 98 17 = s2 98 17 ∧ s79 98 18 = s2 98 18 ∧ s79 98 13 = 3 ∧ s79 101 18 = σ 101 18) => ?_))
        clear es77
        refine h_vret rfl rfl (h_Kn ?_)
        refine h_aload_n (pc' := 34) rfl rfl rfl ?_
        refine h_getR (pc' := 37) rfl rfl rfl rfl rfl ?_
        refine h_iload_n (pc' := 38) rfl rfl rfl ?_
        refine h_iconst (pc' := 39) (x := (Int32.ofInt 2)) rfl rfl rfl ?_
        refine h_iload_n (pc' := 40) rfl rfl rfl ?_
        refine h_imul (pc' := 41) rfl rfl ci_2 hx1 rfl (by omega) (by omega) (fun z80 hz80 => ?_)
        refine h_iadd (pc' := 42) rfl rfl ci_12 hz80 rfl (by omega) (by omega) (fun z81 hz81 => ?_)
        refine h_iload_n (pc' := 43) rfl rfl rfl ?_
        refine h_iast (pc' := 44) rfl rfl rfl rfl hz81 (by omega) (by omega) hr1 (h_fgt (E := fun s => s 98 15 = s2 98 15 ∧ s 98 16 = s2 98 16 ∧ s 98 17 = s2 98 17 ∧ s 98 18 = s2 98 18 ∧ s 98 13 = 3 ∧ s 101 18 = σ 101 18) _ (ip_101_2 Is79 (by omega) (by omega)) (Fs79.up rfl) ⟨es79.1, es79.2.1, es79.2.2.1, es79.2.2.2.1, es79.2.2.2.2.1, h_up_n2 (by omega) es79.2.2.2.2.2⟩ (fun s82 Is82 Fs82 (es82 : s82 98 15 = s2 98 15 ∧ s82 98 16 = s2 98 16 ∧ s82 98 17 = s2 98 17 ∧ s82 98 18 = s2 98 18 ∧ s82 98 13 = 3 ∧ s82 101 18 = σ 101 18) => ?_))
        clear es79
        refine h_aload_n (pc' := 45) rfl rfl rfl ?_
        refine h_getR (pc' := 48) rfl rfl rfl rfl rfl ?_
        refine h_iload_n (pc' := 49) rfl rfl rfl ?_
        refine h_iconst (pc' := 50) (x := (Int32.ofInt 2)) rfl rfl rfl ?_
        refine h_iload_n (pc' := 51) rfl rfl rfl ?_
        refine h_imul (pc' := 52) rfl rfl ci_2 hx1 rfl (by omega) (by omega) (fun z83 hz83 => ?_)
        refine h_iadd (pc' := 53) rfl rfl ci_12 hz83 rfl (by omega) (by omega) (fun z84 hz84 => ?_)
        refine h_iconst (pc' := 54) (x := (Int32.ofInt 1)) rfl rfl rfl ?_
        refine h_iadd (pc' := 55) rfl rfl hz84 ci_1 rfl (by omega) (by omega) (fun z85 hz85 => ?_)
        refine h_aload_n (pc' := 56) rfl rfl rfl ?_
        refine h_call (sp := false) (pc' := 59) (M := [(0, .ref 98)]) rfl rfl rfl rfl rfl rfl rfl rfl ?_
        refine v_oneHere _ Is82  (fun r86 br86 hr86 s87 Is87 Gs87 tr86 ps87_0 pcs87 => h_Kv ?_)
        have Fs87 := (Gs87.mono (B := kf_v_readPair12) rfl).tr Fs82
        have es87_5 : s87 101 18 = σ 101 18 := (Gs87 101 18 rfl).trans es82.2.2.2.2.2
        rcases pcs87 with pcs87 | pcs87 | pcs87
        · refine h_iast (pc' := 60) rfl rfl rfl rfl hz85 (by omega) (by omega) hr86 (h_fgt (E := fun s => s 98 15 = s87 98 15 ∧ s 98 16 = s87 98 16 ∧ s 98 17 = s87 98 17 ∧ s 98 18 = s87 98 18 ∧ s 98 13 = s87 98 13 ∧ s 101 18 = σ 101 18) _ (ip_101_2 Is87 (by omega) (by omega)) (Fs87.up rfl) ⟨rfl, rfl, rfl, rfl, rfl, h_up_n2 (by omega) es87_5⟩ (fun s88 Is88 Fs88 (es88 : s88 98 15 = s87 98 15 ∧ s88 98 16 = s87 98 16 ∧ s88 98 17 = s87 98 17 ∧ s88 98 18 = s87 98 18 ∧ s88 98 13 = s87 98 13 ∧ s88 101 18 = σ 101 18) => ?_))
          clear es87_5
          refine h_aload_n (pc' := 61) rfl rfl rfl ?_
          refine h_getR (pc' := 64) rfl rfl rfl rfl rfl ?_
          refine h_iload_n (pc' := 65) rfl rfl rfl ?_
          refine h_bipush (pc' := 67) (x := (Int32.ofInt 6)) rfl rfl cb_6 ?_
          refine h_iadd (pc' := 68) (c := 18) rfl rfl ci_12 ci_6 rfl (by omega) (by omega) (fun z89 hz89 => ?_)
          refine h_dup2 (pc' := 69) rfl rfl rfl ?_
          refine h_iald (pc' := 70) (v := σ 101 18) rfl rfl rfl hz89 (by omega) (by omega) es88.2.2.2.2.2 (fun z90 hz90 => ?_)
          have tz90 := ty_101_3 hI 18 (by omega)
          refine h_iconst (pc' := 71) (x := (Int32.ofInt 1)) rfl rfl rfl ?_
          refine h_iadd (pc' := 72) rfl rfl hz90 ci_1 rfl (by omega) (by omega) (fun z91 hz91 => ?_)
          refine h_iast (pc' := 73) rfl rfl rfl rfl hz89 (by omega) (by omega) hz91 (h_fgt (E := fun s => s 98 15 = s87 98 15 ∧ s 98 16 = s87 98 16 ∧ s 98 17 = s87 98 17 ∧ s 98 18 = s87 98 18 ∧ s 98 13 = s87 98 13 ∧ s 101 18 = ((σ 101 18) + 1)) _ (ip_101_3 Is88 (by omega) (by omega)) (Fs88.up rfl) ⟨es88.1, es88.2.1, es88.2.2.1, es88.2.2.2.1, es88.2.2.2.2.1, rfl⟩ (fun s92 Is92 Fs92 (es92 : s92 98 15 = s87 98 15 ∧ s92 98 16 = s87 98 16 ∧ s92 98 17 = s87 98 17 ∧ s92 98 18 = s87 98 18 ∧ s92 98 13 = s87 98 13 ∧ s92 101 18 = ((σ 101 18) + 1)) => ?_))
          clear es88
          exact h_vret rfl rfl (kk _ Is92 Fs92 (Or.inr (Or.inl ⟨by omega, by omega, by omega⟩)))
        · exfalso; omega
        · exfalso; omega
def kf_v_readPair19 : List Nat := [100360, 100365, 100366, 100367, 100368, 100369, 100370, 104447]
set_option maxHeartbeats 100000000 in
theorem v_readPair19 {ns : Nat} (σ : h_S) (hI : h_I σ) (x1 : Int32) (a1 : Int) (hx1 : x1.toInt = a1) (ra1 : 0 ≤ a1 ∧ a1 ≤ 2) (pr0 : σ 101 25 ≤ 2) {Q : Option Value → h_S → Prop} (kk : ∀ (τ : h_S), h_I τ → h_F (k_in kf_v_readPair19) τ σ → (((1 ≤ σ 98 13 ∧ σ 98 13 ≤ 6) ∧ (1 ≤ τ 98 13 ∧ τ 98 13 ≤ 6) ∧ (σ 98 15 ≤ τ 98 15)) ∨ ((σ 98 13 = 0) ∧ (1 ≤ τ 98 13 ∧ τ 98 13 ≤ 6) ∧ (σ 98 15 ≤ τ 98 15)) ∨ ((σ 98 13 = 0) ∧ (τ 98 13 = 0) ∧ (σ 98 15 ≤ τ 98 15))) → Q none τ) : h_T g_P (g_Y ns) 151 0 [(0, .ref 98), (1, .int (Int32.ofInt 19)), (2, .int x1)] [] σ Q := by
  have F00 : h_F (k_in kf_v_readPair19) σ σ := h_F.rf
  have ge0 := tf_98_13 hI
  refine h_aload_n (pc' := 1) rfl rfl rfl ?_
  refine h_call (sp := false) (pc' := 4) (M := [(0, .ref 98)]) rfl rfl rfl rfl rfl rfl rfl rfl ?_
  refine v_oneHere _ hI  (fun r1 br1 hr1 s2 Is2 Gs2 tr1 ps2_0 pcs2 => h_Kv ?_)
  have Fs2 := (Gs2.mono (B := kf_v_readPair19) rfl).tr F00
  have es2_5 : s2 101 25 = σ 101 25 := (Gs2 101 25 rfl).trans rfl
  rcases pcs2 with pcs2 | pcs2 | pcs2
  · refine h_istore_n (pc' := 5) (M := [(3, .int r1), (0, .ref 98), (1, .int (Int32.ofInt 19)), (2, .int x1)]) rfl rfl rfl rfl ?_
    refine h_aload_n (pc' := 6) rfl rfl rfl ?_
    refine h_getI (pc' := 9) (v := s2 98 13) rfl rfl rfl rfl rfl rfl (fun z3 hz3 => ?_)
    have tz3 := tf_98_13 Is2
    refine h_zne (tg := 33) (pc' := 12) rfl rfl rfl hz3 (fun c4 => ?_) (fun c4 => absurd c4 (by omega))
    refine h_aload_n (pc' := 34) rfl rfl rfl ?_
    refine h_getR (pc' := 37) rfl rfl rfl rfl rfl ?_
    refine h_iload_n (pc' := 38) rfl rfl rfl ?_
    refine h_iconst (pc' := 39) (x := (Int32.ofInt 2)) rfl rfl rfl ?_
    refine h_iload_n (pc' := 40) rfl rfl rfl ?_
    refine h_imul (pc' := 41) rfl rfl ci_2 hx1 rfl (by omega) (by omega) (fun z5 hz5 => ?_)
    refine h_iadd (pc' := 42) rfl rfl ci_19 hz5 rfl (by omega) (by omega) (fun z6 hz6 => ?_)
    refine h_iload_n (pc' := 43) rfl rfl rfl ?_
    refine h_iast (pc' := 44) rfl rfl rfl rfl hz6 (by omega) (by omega) hr1 (h_fgt (E := fun s => s 98 15 = s2 98 15 ∧ s 98 16 = s2 98 16 ∧ s 98 17 = s2 98 17 ∧ s 98 18 = s2 98 18 ∧ s 98 13 = s2 98 13 ∧ s 101 25 = σ 101 25) _ (ip_101_4 Is2 (by omega) (by omega)) (Fs2.up rfl) ⟨rfl, rfl, rfl, rfl, rfl, h_up_n2 (by omega) es2_5⟩ (fun s7 Is7 Fs7 (es7 : s7 98 15 = s2 98 15 ∧ s7 98 16 = s2 98 16 ∧ s7 98 17 = s2 98 17 ∧ s7 98 18 = s2 98 18 ∧ s7 98 13 = s2 98 13 ∧ s7 101 25 = σ 101 25) => ?_))
    clear es2_5
    refine h_aload_n (pc' := 45) rfl rfl rfl ?_
    refine h_getR (pc' := 48) rfl rfl rfl rfl rfl ?_
    refine h_iload_n (pc' := 49) rfl rfl rfl ?_
    refine h_iconst (pc' := 50) (x := (Int32.ofInt 2)) rfl rfl rfl ?_
    refine h_iload_n (pc' := 51) rfl rfl rfl ?_
    refine h_imul (pc' := 52) rfl rfl ci_2 hx1 rfl (by omega) (by omega) (fun z8 hz8 => ?_)
    refine h_iadd (pc' := 53) rfl rfl ci_19 hz8 rfl (by omega) (by omega) (fun z9 hz9 => ?_)
    refine h_iconst (pc' := 54) (x := (Int32.ofInt 1)) rfl rfl rfl ?_
    refine h_iadd (pc' := 55) rfl rfl hz9 ci_1 rfl (by omega) (by omega) (fun z10 hz10 => ?_)
    refine h_aload_n (pc' := 56) rfl rfl rfl ?_
    refine h_call (sp := false) (pc' := 59) (M := [(0, .ref 98)]) rfl rfl rfl rfl rfl rfl rfl rfl ?_
    refine v_oneHere _ Is7  (fun r11 br11 hr11 s12 Is12 Gs12 tr11 ps12_0 pcs12 => h_Kv ?_)
    have Fs12 := (Gs12.mono (B := kf_v_readPair19) rfl).tr Fs7
    have es12_5 : s12 101 25 = σ 101 25 := (Gs12 101 25 rfl).trans es7.2.2.2.2.2
    rcases pcs12 with pcs12 | pcs12 | pcs12
    · refine h_iast (pc' := 60) rfl rfl rfl rfl hz10 (by omega) (by omega) hr11 (h_fgt (E := fun s => s 98 15 = s12 98 15 ∧ s 98 16 = s12 98 16 ∧ s 98 17 = s12 98 17 ∧ s 98 18 = s12 98 18 ∧ s 98 13 = s12 98 13 ∧ s 101 25 = σ 101 25) _ (ip_101_4 Is12 (by omega) (by omega)) (Fs12.up rfl) ⟨rfl, rfl, rfl, rfl, rfl, h_up_n2 (by omega) es12_5⟩ (fun s13 Is13 Fs13 (es13 : s13 98 15 = s12 98 15 ∧ s13 98 16 = s12 98 16 ∧ s13 98 17 = s12 98 17 ∧ s13 98 18 = s12 98 18 ∧ s13 98 13 = s12 98 13 ∧ s13 101 25 = σ 101 25) => ?_))
      clear es12_5
      refine h_aload_n (pc' := 61) rfl rfl rfl ?_
      refine h_getR (pc' := 64) rfl rfl rfl rfl rfl ?_
      refine h_iload_n (pc' := 65) rfl rfl rfl ?_
      refine h_bipush (pc' := 67) (x := (Int32.ofInt 6)) rfl rfl cb_6 ?_
      refine h_iadd (pc' := 68) (c := 25) rfl rfl ci_19 ci_6 rfl (by omega) (by omega) (fun z14 hz14 => ?_)
      refine h_dup2 (pc' := 69) rfl rfl rfl ?_
      refine h_iald (pc' := 70) (v := σ 101 25) rfl rfl rfl hz14 (by omega) (by omega) es13.2.2.2.2.2 (fun z15 hz15 => ?_)
      have tz15 := ty_101_5 hI 25 (by omega)
      refine h_iconst (pc' := 71) (x := (Int32.ofInt 1)) rfl rfl rfl ?_
      refine h_iadd (pc' := 72) rfl rfl hz15 ci_1 rfl (by omega) (by omega) (fun z16 hz16 => ?_)
      refine h_iast (pc' := 73) rfl rfl rfl rfl hz14 (by omega) (by omega) hz16 (h_fgt (E := fun s => s 98 15 = s12 98 15 ∧ s 98 16 = s12 98 16 ∧ s 98 17 = s12 98 17 ∧ s 98 18 = s12 98 18 ∧ s 98 13 = s12 98 13 ∧ s 101 25 = ((σ 101 25) + 1)) _ (ip_101_5 Is13 (by omega) (by omega)) (Fs13.up rfl) ⟨es13.1, es13.2.1, es13.2.2.1, es13.2.2.2.1, es13.2.2.2.2.1, rfl⟩ (fun s17 Is17 Fs17 (es17 : s17 98 15 = s12 98 15 ∧ s17 98 16 = s12 98 16 ∧ s17 98 17 = s12 98 17 ∧ s17 98 18 = s12 98 18 ∧ s17 98 13 = s12 98 13 ∧ s17 101 25 = ((σ 101 25) + 1)) => ?_))
      clear es13
      exact h_vret rfl rfl (kk _ Is17 Fs17 (Or.inl ⟨by omega, by omega, by omega⟩))
    · exfalso; omega
    · exfalso; omega
  · refine h_istore_n (pc' := 5) (M := [(3, .int r1), (0, .ref 98), (1, .int (Int32.ofInt 19)), (2, .int x1)]) rfl rfl rfl rfl ?_
    refine h_aload_n (pc' := 6) rfl rfl rfl ?_
    refine h_getI (pc' := 9) (v := s2 98 13) rfl rfl rfl rfl rfl rfl (fun z18 hz18 => ?_)
    have tz18 := tf_98_13 Is2
    refine h_zne (tg := 33) (pc' := 12) rfl rfl rfl hz18 (fun c19 => ?_) (fun c19 => absurd c19 (by omega))
    refine h_aload_n (pc' := 34) rfl rfl rfl ?_
    refine h_getR (pc' := 37) rfl rfl rfl rfl rfl ?_
    refine h_iload_n (pc' := 38) rfl rfl rfl ?_
    refine h_iconst (pc' := 39) (x := (Int32.ofInt 2)) rfl rfl rfl ?_
    refine h_iload_n (pc' := 40) rfl rfl rfl ?_
    refine h_imul (pc' := 41) rfl rfl ci_2 hx1 rfl (by omega) (by omega) (fun z20 hz20 => ?_)
    refine h_iadd (pc' := 42) rfl rfl ci_19 hz20 rfl (by omega) (by omega) (fun z21 hz21 => ?_)
    refine h_iload_n (pc' := 43) rfl rfl rfl ?_
    refine h_iast (pc' := 44) rfl rfl rfl rfl hz21 (by omega) (by omega) hr1 (h_fgt (E := fun s => s 98 15 = s2 98 15 ∧ s 98 16 = s2 98 16 ∧ s 98 17 = s2 98 17 ∧ s 98 18 = s2 98 18 ∧ s 98 13 = s2 98 13 ∧ s 101 25 = σ 101 25) _ (ip_101_4 Is2 (by omega) (by omega)) (Fs2.up rfl) ⟨rfl, rfl, rfl, rfl, rfl, h_up_n2 (by omega) es2_5⟩ (fun s22 Is22 Fs22 (es22 : s22 98 15 = s2 98 15 ∧ s22 98 16 = s2 98 16 ∧ s22 98 17 = s2 98 17 ∧ s22 98 18 = s2 98 18 ∧ s22 98 13 = s2 98 13 ∧ s22 101 25 = σ 101 25) => ?_))
    clear es2_5
    refine h_aload_n (pc' := 45) rfl rfl rfl ?_
    refine h_getR (pc' := 48) rfl rfl rfl rfl rfl ?_
    refine h_iload_n (pc' := 49) rfl rfl rfl ?_
    refine h_iconst (pc' := 50) (x := (Int32.ofInt 2)) rfl rfl rfl ?_
    refine h_iload_n (pc' := 51) rfl rfl rfl ?_
    refine h_imul (pc' := 52) rfl rfl ci_2 hx1 rfl (by omega) (by omega) (fun z23 hz23 => ?_)
    refine h_iadd (pc' := 53) rfl rfl ci_19 hz23 rfl (by omega) (by omega) (fun z24 hz24 => ?_)
    refine h_iconst (pc' := 54) (x := (Int32.ofInt 1)) rfl rfl rfl ?_
    refine h_iadd (pc' := 55) rfl rfl hz24 ci_1 rfl (by omega) (by omega) (fun z25 hz25 => ?_)
    refine h_aload_n (pc' := 56) rfl rfl rfl ?_
    refine h_call (sp := false) (pc' := 59) (M := [(0, .ref 98)]) rfl rfl rfl rfl rfl rfl rfl rfl ?_
    refine v_oneHere _ Is22  (fun r26 br26 hr26 s27 Is27 Gs27 tr26 ps27_0 pcs27 => h_Kv ?_)
    have Fs27 := (Gs27.mono (B := kf_v_readPair19) rfl).tr Fs22
    have es27_5 : s27 101 25 = σ 101 25 := (Gs27 101 25 rfl).trans es22.2.2.2.2.2
    rcases pcs27 with pcs27 | pcs27 | pcs27
    · refine h_iast (pc' := 60) rfl rfl rfl rfl hz25 (by omega) (by omega) hr26 (h_fgt (E := fun s => s 98 15 = s27 98 15 ∧ s 98 16 = s27 98 16 ∧ s 98 17 = s27 98 17 ∧ s 98 18 = s27 98 18 ∧ s 98 13 = s27 98 13 ∧ s 101 25 = σ 101 25) _ (ip_101_4 Is27 (by omega) (by omega)) (Fs27.up rfl) ⟨rfl, rfl, rfl, rfl, rfl, h_up_n2 (by omega) es27_5⟩ (fun s28 Is28 Fs28 (es28 : s28 98 15 = s27 98 15 ∧ s28 98 16 = s27 98 16 ∧ s28 98 17 = s27 98 17 ∧ s28 98 18 = s27 98 18 ∧ s28 98 13 = s27 98 13 ∧ s28 101 25 = σ 101 25) => ?_))
      clear es27_5
      refine h_aload_n (pc' := 61) rfl rfl rfl ?_
      refine h_getR (pc' := 64) rfl rfl rfl rfl rfl ?_
      refine h_iload_n (pc' := 65) rfl rfl rfl ?_
      refine h_bipush (pc' := 67) (x := (Int32.ofInt 6)) rfl rfl cb_6 ?_
      refine h_iadd (pc' := 68) (c := 25) rfl rfl ci_19 ci_6 rfl (by omega) (by omega) (fun z29 hz29 => ?_)
      refine h_dup2 (pc' := 69) rfl rfl rfl ?_
      refine h_iald (pc' := 70) (v := σ 101 25) rfl rfl rfl hz29 (by omega) (by omega) es28.2.2.2.2.2 (fun z30 hz30 => ?_)
      have tz30 := ty_101_5 hI 25 (by omega)
      refine h_iconst (pc' := 71) (x := (Int32.ofInt 1)) rfl rfl rfl ?_
      refine h_iadd (pc' := 72) rfl rfl hz30 ci_1 rfl (by omega) (by omega) (fun z31 hz31 => ?_)
      refine h_iast (pc' := 73) rfl rfl rfl rfl hz29 (by omega) (by omega) hz31 (h_fgt (E := fun s => s 98 15 = s27 98 15 ∧ s 98 16 = s27 98 16 ∧ s 98 17 = s27 98 17 ∧ s 98 18 = s27 98 18 ∧ s 98 13 = s27 98 13 ∧ s 101 25 = ((σ 101 25) + 1)) _ (ip_101_5 Is28 (by omega) (by omega)) (Fs28.up rfl) ⟨es28.1, es28.2.1, es28.2.2.1, es28.2.2.2.1, es28.2.2.2.2.1, rfl⟩ (fun s32 Is32 Fs32 (es32 : s32 98 15 = s27 98 15 ∧ s32 98 16 = s27 98 16 ∧ s32 98 17 = s27 98 17 ∧ s32 98 18 = s27 98 18 ∧ s32 98 13 = s27 98 13 ∧ s32 101 25 = ((σ 101 25) + 1)) => ?_))
      clear es28
      exact h_vret rfl rfl (kk _ Is32 Fs32 (Or.inr (Or.inl ⟨by omega, by omega, by omega⟩)))
    · exfalso; omega
    · exfalso; omega
  · refine h_istore_n (pc' := 5) (M := [(3, .int r1), (0, .ref 98), (1, .int (Int32.ofInt 19)), (2, .int x1)]) rfl rfl rfl rfl ?_
    refine h_aload_n (pc' := 6) rfl rfl rfl ?_
    refine h_getI (pc' := 9) (v := s2 98 13) rfl rfl rfl rfl rfl rfl (fun z33 hz33 => ?_)
    have tz33 := tf_98_13 Is2
    refine h_zne (tg := 33) (pc' := 12) rfl rfl rfl hz33 (fun c34 => absurd c34 (by omega)) (fun c34 => ?_)
    refine h_aload_n (pc' := 13) rfl rfl rfl ?_
    refine h_getI (pc' := 16) (v := s2 98 17) rfl rfl rfl rfl rfl rfl (fun z35 hz35 => ?_)
    have tz35 := tf_98_17 Is2
    refine h_iconst (pc' := 17) (x := (Int32.ofInt 2)) rfl rfl rfl ?_
    refine h_cne (tg := 33) (pc' := 20) rfl rfl rfl hz35 ci_2 (fun c36 => ?_) (fun c36 => ?_)
    · refine h_aload_n (pc' := 34) rfl rfl rfl ?_
      refine h_getR (pc' := 37) rfl rfl rfl rfl rfl ?_
      refine h_iload_n (pc' := 38) rfl rfl rfl ?_
      refine h_iconst (pc' := 39) (x := (Int32.ofInt 2)) rfl rfl rfl ?_
      refine h_iload_n (pc' := 40) rfl rfl rfl ?_
      refine h_imul (pc' := 41) rfl rfl ci_2 hx1 rfl (by omega) (by omega) (fun z37 hz37 => ?_)
      refine h_iadd (pc' := 42) rfl rfl ci_19 hz37 rfl (by omega) (by omega) (fun z38 hz38 => ?_)
      refine h_iload_n (pc' := 43) rfl rfl rfl ?_
      refine h_iast (pc' := 44) rfl rfl rfl rfl hz38 (by omega) (by omega) hr1 (h_fgt (E := fun s => s 98 15 = s2 98 15 ∧ s 98 16 = s2 98 16 ∧ s 98 17 = s2 98 17 ∧ s 98 18 = s2 98 18 ∧ s 98 13 = s2 98 13 ∧ s 101 25 = σ 101 25) _ (ip_101_4 Is2 (by omega) (by omega)) (Fs2.up rfl) ⟨rfl, rfl, rfl, rfl, rfl, h_up_n2 (by omega) es2_5⟩ (fun s39 Is39 Fs39 (es39 : s39 98 15 = s2 98 15 ∧ s39 98 16 = s2 98 16 ∧ s39 98 17 = s2 98 17 ∧ s39 98 18 = s2 98 18 ∧ s39 98 13 = s2 98 13 ∧ s39 101 25 = σ 101 25) => ?_))
      clear es2_5
      refine h_aload_n (pc' := 45) rfl rfl rfl ?_
      refine h_getR (pc' := 48) rfl rfl rfl rfl rfl ?_
      refine h_iload_n (pc' := 49) rfl rfl rfl ?_
      refine h_iconst (pc' := 50) (x := (Int32.ofInt 2)) rfl rfl rfl ?_
      refine h_iload_n (pc' := 51) rfl rfl rfl ?_
      refine h_imul (pc' := 52) rfl rfl ci_2 hx1 rfl (by omega) (by omega) (fun z40 hz40 => ?_)
      refine h_iadd (pc' := 53) rfl rfl ci_19 hz40 rfl (by omega) (by omega) (fun z41 hz41 => ?_)
      refine h_iconst (pc' := 54) (x := (Int32.ofInt 1)) rfl rfl rfl ?_
      refine h_iadd (pc' := 55) rfl rfl hz41 ci_1 rfl (by omega) (by omega) (fun z42 hz42 => ?_)
      refine h_aload_n (pc' := 56) rfl rfl rfl ?_
      refine h_call (sp := false) (pc' := 59) (M := [(0, .ref 98)]) rfl rfl rfl rfl rfl rfl rfl rfl ?_
      refine v_oneHere _ Is39  (fun r43 br43 hr43 s44 Is44 Gs44 tr43 ps44_0 pcs44 => h_Kv ?_)
      have Fs44 := (Gs44.mono (B := kf_v_readPair19) rfl).tr Fs39
      have es44_5 : s44 101 25 = σ 101 25 := (Gs44 101 25 rfl).trans es39.2.2.2.2.2
      rcases pcs44 with pcs44 | pcs44 | pcs44
      · exfalso; omega
      · refine h_iast (pc' := 60) rfl rfl rfl rfl hz42 (by omega) (by omega) hr43 (h_fgt (E := fun s => s 98 15 = s44 98 15 ∧ s 98 16 = s44 98 16 ∧ s 98 17 = s44 98 17 ∧ s 98 18 = s44 98 18 ∧ s 98 13 = s44 98 13 ∧ s 101 25 = σ 101 25) _ (ip_101_4 Is44 (by omega) (by omega)) (Fs44.up rfl) ⟨rfl, rfl, rfl, rfl, rfl, h_up_n2 (by omega) es44_5⟩ (fun s45 Is45 Fs45 (es45 : s45 98 15 = s44 98 15 ∧ s45 98 16 = s44 98 16 ∧ s45 98 17 = s44 98 17 ∧ s45 98 18 = s44 98 18 ∧ s45 98 13 = s44 98 13 ∧ s45 101 25 = σ 101 25) => ?_))
        clear es44_5
        refine h_aload_n (pc' := 61) rfl rfl rfl ?_
        refine h_getR (pc' := 64) rfl rfl rfl rfl rfl ?_
        refine h_iload_n (pc' := 65) rfl rfl rfl ?_
        refine h_bipush (pc' := 67) (x := (Int32.ofInt 6)) rfl rfl cb_6 ?_
        refine h_iadd (pc' := 68) (c := 25) rfl rfl ci_19 ci_6 rfl (by omega) (by omega) (fun z46 hz46 => ?_)
        refine h_dup2 (pc' := 69) rfl rfl rfl ?_
        refine h_iald (pc' := 70) (v := σ 101 25) rfl rfl rfl hz46 (by omega) (by omega) es45.2.2.2.2.2 (fun z47 hz47 => ?_)
        have tz47 := ty_101_5 hI 25 (by omega)
        refine h_iconst (pc' := 71) (x := (Int32.ofInt 1)) rfl rfl rfl ?_
        refine h_iadd (pc' := 72) rfl rfl hz47 ci_1 rfl (by omega) (by omega) (fun z48 hz48 => ?_)
        refine h_iast (pc' := 73) rfl rfl rfl rfl hz46 (by omega) (by omega) hz48 (h_fgt (E := fun s => s 98 15 = s44 98 15 ∧ s 98 16 = s44 98 16 ∧ s 98 17 = s44 98 17 ∧ s 98 18 = s44 98 18 ∧ s 98 13 = s44 98 13 ∧ s 101 25 = ((σ 101 25) + 1)) _ (ip_101_5 Is45 (by omega) (by omega)) (Fs45.up rfl) ⟨es45.1, es45.2.1, es45.2.2.1, es45.2.2.2.1, es45.2.2.2.2.1, rfl⟩ (fun s49 Is49 Fs49 (es49 : s49 98 15 = s44 98 15 ∧ s49 98 16 = s44 98 16 ∧ s49 98 17 = s44 98 17 ∧ s49 98 18 = s44 98 18 ∧ s49 98 13 = s44 98 13 ∧ s49 101 25 = ((σ 101 25) + 1)) => ?_))
        clear es45
        exact h_vret rfl rfl (kk _ Is49 Fs49 (Or.inr (Or.inl ⟨by omega, by omega, by omega⟩)))
      · refine h_iast (pc' := 60) rfl rfl rfl rfl hz42 (by omega) (by omega) hr43 (h_fgt (E := fun s => s 98 15 = s44 98 15 ∧ s 98 16 = s44 98 16 ∧ s 98 17 = s44 98 17 ∧ s 98 18 = s44 98 18 ∧ s 98 13 = s44 98 13 ∧ s 101 25 = σ 101 25) _ (ip_101_4 Is44 (by omega) (by omega)) (Fs44.up rfl) ⟨rfl, rfl, rfl, rfl, rfl, h_up_n2 (by omega) es44_5⟩ (fun s50 Is50 Fs50 (es50 : s50 98 15 = s44 98 15 ∧ s50 98 16 = s44 98 16 ∧ s50 98 17 = s44 98 17 ∧ s50 98 18 = s44 98 18 ∧ s50 98 13 = s44 98 13 ∧ s50 101 25 = σ 101 25) => ?_))
        clear es44_5
        refine h_aload_n (pc' := 61) rfl rfl rfl ?_
        refine h_getR (pc' := 64) rfl rfl rfl rfl rfl ?_
        refine h_iload_n (pc' := 65) rfl rfl rfl ?_
        refine h_bipush (pc' := 67) (x := (Int32.ofInt 6)) rfl rfl cb_6 ?_
        refine h_iadd (pc' := 68) (c := 25) rfl rfl ci_19 ci_6 rfl (by omega) (by omega) (fun z51 hz51 => ?_)
        refine h_dup2 (pc' := 69) rfl rfl rfl ?_
        refine h_iald (pc' := 70) (v := σ 101 25) rfl rfl rfl hz51 (by omega) (by omega) es50.2.2.2.2.2 (fun z52 hz52 => ?_)
        have tz52 := ty_101_5 hI 25 (by omega)
        refine h_iconst (pc' := 71) (x := (Int32.ofInt 1)) rfl rfl rfl ?_
        refine h_iadd (pc' := 72) rfl rfl hz52 ci_1 rfl (by omega) (by omega) (fun z53 hz53 => ?_)
        refine h_iast (pc' := 73) rfl rfl rfl rfl hz51 (by omega) (by omega) hz53 (h_fgt (E := fun s => s 98 15 = s44 98 15 ∧ s 98 16 = s44 98 16 ∧ s 98 17 = s44 98 17 ∧ s 98 18 = s44 98 18 ∧ s 98 13 = s44 98 13 ∧ s 101 25 = ((σ 101 25) + 1)) _ (ip_101_5 Is50 (by omega) (by omega)) (Fs50.up rfl) ⟨es50.1, es50.2.1, es50.2.2.1, es50.2.2.2.1, es50.2.2.2.2.1, rfl⟩ (fun s54 Is54 Fs54 (es54 : s54 98 15 = s44 98 15 ∧ s54 98 16 = s44 98 16 ∧ s54 98 17 = s44 98 17 ∧ s54 98 18 = s44 98 18 ∧ s54 98 13 = s44 98 13 ∧ s54 101 25 = ((σ 101 25) + 1)) => ?_))
        clear es50
        exact h_vret rfl rfl (kk _ Is54 Fs54 (Or.inr (Or.inr ⟨by omega, by omega, by omega⟩)))
    · refine h_aload_n (pc' := 21) rfl rfl rfl ?_
      refine h_getI (pc' := 24) (v := s2 98 18) rfl rfl rfl rfl rfl rfl (fun z55 hz55 => ?_)
      have tz55 := tf_98_18 Is2
      refine h_iload_n (pc' := 25) rfl rfl rfl ?_
      refine h_cne (tg := 33) (pc' := 28) rfl rfl rfl hz55 hr1 (fun c56 => ?_) (fun c56 => ?_)
      · refine h_aload_n (pc' := 34) rfl rfl rfl ?_
        refine h_getR (pc' := 37) rfl rfl rfl rfl rfl ?_
        refine h_iload_n (pc' := 38) rfl rfl rfl ?_
        refine h_iconst (pc' := 39) (x := (Int32.ofInt 2)) rfl rfl rfl ?_
        refine h_iload_n (pc' := 40) rfl rfl rfl ?_
        refine h_imul (pc' := 41) rfl rfl ci_2 hx1 rfl (by omega) (by omega) (fun z57 hz57 => ?_)
        refine h_iadd (pc' := 42) rfl rfl ci_19 hz57 rfl (by omega) (by omega) (fun z58 hz58 => ?_)
        refine h_iload_n (pc' := 43) rfl rfl rfl ?_
        refine h_iast (pc' := 44) rfl rfl rfl rfl hz58 (by omega) (by omega) hr1 (h_fgt (E := fun s => s 98 15 = s2 98 15 ∧ s 98 16 = s2 98 16 ∧ s 98 17 = s2 98 17 ∧ s 98 18 = s2 98 18 ∧ s 98 13 = s2 98 13 ∧ s 101 25 = σ 101 25) _ (ip_101_4 Is2 (by omega) (by omega)) (Fs2.up rfl) ⟨rfl, rfl, rfl, rfl, rfl, h_up_n2 (by omega) es2_5⟩ (fun s59 Is59 Fs59 (es59 : s59 98 15 = s2 98 15 ∧ s59 98 16 = s2 98 16 ∧ s59 98 17 = s2 98 17 ∧ s59 98 18 = s2 98 18 ∧ s59 98 13 = s2 98 13 ∧ s59 101 25 = σ 101 25) => ?_))
        clear es2_5
        refine h_aload_n (pc' := 45) rfl rfl rfl ?_
        refine h_getR (pc' := 48) rfl rfl rfl rfl rfl ?_
        refine h_iload_n (pc' := 49) rfl rfl rfl ?_
        refine h_iconst (pc' := 50) (x := (Int32.ofInt 2)) rfl rfl rfl ?_
        refine h_iload_n (pc' := 51) rfl rfl rfl ?_
        refine h_imul (pc' := 52) rfl rfl ci_2 hx1 rfl (by omega) (by omega) (fun z60 hz60 => ?_)
        refine h_iadd (pc' := 53) rfl rfl ci_19 hz60 rfl (by omega) (by omega) (fun z61 hz61 => ?_)
        refine h_iconst (pc' := 54) (x := (Int32.ofInt 1)) rfl rfl rfl ?_
        refine h_iadd (pc' := 55) rfl rfl hz61 ci_1 rfl (by omega) (by omega) (fun z62 hz62 => ?_)
        refine h_aload_n (pc' := 56) rfl rfl rfl ?_
        refine h_call (sp := false) (pc' := 59) (M := [(0, .ref 98)]) rfl rfl rfl rfl rfl rfl rfl rfl ?_
        refine v_oneHere _ Is59  (fun r63 br63 hr63 s64 Is64 Gs64 tr63 ps64_0 pcs64 => h_Kv ?_)
        have Fs64 := (Gs64.mono (B := kf_v_readPair19) rfl).tr Fs59
        have es64_5 : s64 101 25 = σ 101 25 := (Gs64 101 25 rfl).trans es59.2.2.2.2.2
        rcases pcs64 with pcs64 | pcs64 | pcs64
        · exfalso; omega
        · refine h_iast (pc' := 60) rfl rfl rfl rfl hz62 (by omega) (by omega) hr63 (h_fgt (E := fun s => s 98 15 = s64 98 15 ∧ s 98 16 = s64 98 16 ∧ s 98 17 = s64 98 17 ∧ s 98 18 = s64 98 18 ∧ s 98 13 = s64 98 13 ∧ s 101 25 = σ 101 25) _ (ip_101_4 Is64 (by omega) (by omega)) (Fs64.up rfl) ⟨rfl, rfl, rfl, rfl, rfl, h_up_n2 (by omega) es64_5⟩ (fun s65 Is65 Fs65 (es65 : s65 98 15 = s64 98 15 ∧ s65 98 16 = s64 98 16 ∧ s65 98 17 = s64 98 17 ∧ s65 98 18 = s64 98 18 ∧ s65 98 13 = s64 98 13 ∧ s65 101 25 = σ 101 25) => ?_))
          clear es64_5
          refine h_aload_n (pc' := 61) rfl rfl rfl ?_
          refine h_getR (pc' := 64) rfl rfl rfl rfl rfl ?_
          refine h_iload_n (pc' := 65) rfl rfl rfl ?_
          refine h_bipush (pc' := 67) (x := (Int32.ofInt 6)) rfl rfl cb_6 ?_
          refine h_iadd (pc' := 68) (c := 25) rfl rfl ci_19 ci_6 rfl (by omega) (by omega) (fun z66 hz66 => ?_)
          refine h_dup2 (pc' := 69) rfl rfl rfl ?_
          refine h_iald (pc' := 70) (v := σ 101 25) rfl rfl rfl hz66 (by omega) (by omega) es65.2.2.2.2.2 (fun z67 hz67 => ?_)
          have tz67 := ty_101_5 hI 25 (by omega)
          refine h_iconst (pc' := 71) (x := (Int32.ofInt 1)) rfl rfl rfl ?_
          refine h_iadd (pc' := 72) rfl rfl hz67 ci_1 rfl (by omega) (by omega) (fun z68 hz68 => ?_)
          refine h_iast (pc' := 73) rfl rfl rfl rfl hz66 (by omega) (by omega) hz68 (h_fgt (E := fun s => s 98 15 = s64 98 15 ∧ s 98 16 = s64 98 16 ∧ s 98 17 = s64 98 17 ∧ s 98 18 = s64 98 18 ∧ s 98 13 = s64 98 13 ∧ s 101 25 = ((σ 101 25) + 1)) _ (ip_101_5 Is65 (by omega) (by omega)) (Fs65.up rfl) ⟨es65.1, es65.2.1, es65.2.2.1, es65.2.2.2.1, es65.2.2.2.2.1, rfl⟩ (fun s69 Is69 Fs69 (es69 : s69 98 15 = s64 98 15 ∧ s69 98 16 = s64 98 16 ∧ s69 98 17 = s64 98 17 ∧ s69 98 18 = s64 98 18 ∧ s69 98 13 = s64 98 13 ∧ s69 101 25 = ((σ 101 25) + 1)) => ?_))
          clear es65
          exact h_vret rfl rfl (kk _ Is69 Fs69 (Or.inr (Or.inl ⟨by omega, by omega, by omega⟩)))
        · refine h_iast (pc' := 60) rfl rfl rfl rfl hz62 (by omega) (by omega) hr63 (h_fgt (E := fun s => s 98 15 = s64 98 15 ∧ s 98 16 = s64 98 16 ∧ s 98 17 = s64 98 17 ∧ s 98 18 = s64 98 18 ∧ s 98 13 = s64 98 13 ∧ s 101 25 = σ 101 25) _ (ip_101_4 Is64 (by omega) (by omega)) (Fs64.up rfl) ⟨rfl, rfl, rfl, rfl, rfl, h_up_n2 (by omega) es64_5⟩ (fun s70 Is70 Fs70 (es70 : s70 98 15 = s64 98 15 ∧ s70 98 16 = s64 98 16 ∧ s70 98 17 = s64 98 17 ∧ s70 98 18 = s64 98 18 ∧ s70 98 13 = s64 98 13 ∧ s70 101 25 = σ 101 25) => ?_))
          clear es64_5
          refine h_aload_n (pc' := 61) rfl rfl rfl ?_
          refine h_getR (pc' := 64) rfl rfl rfl rfl rfl ?_
          refine h_iload_n (pc' := 65) rfl rfl rfl ?_
          refine h_bipush (pc' := 67) (x := (Int32.ofInt 6)) rfl rfl cb_6 ?_
          refine h_iadd (pc' := 68) (c := 25) rfl rfl ci_19 ci_6 rfl (by omega) (by omega) (fun z71 hz71 => ?_)
          refine h_dup2 (pc' := 69) rfl rfl rfl ?_
          refine h_iald (pc' := 70) (v := σ 101 25) rfl rfl rfl hz71 (by omega) (by omega) es70.2.2.2.2.2 (fun z72 hz72 => ?_)
          have tz72 := ty_101_5 hI 25 (by omega)
          refine h_iconst (pc' := 71) (x := (Int32.ofInt 1)) rfl rfl rfl ?_
          refine h_iadd (pc' := 72) rfl rfl hz72 ci_1 rfl (by omega) (by omega) (fun z73 hz73 => ?_)
          refine h_iast (pc' := 73) rfl rfl rfl rfl hz71 (by omega) (by omega) hz73 (h_fgt (E := fun s => s 98 15 = s64 98 15 ∧ s 98 16 = s64 98 16 ∧ s 98 17 = s64 98 17 ∧ s 98 18 = s64 98 18 ∧ s 98 13 = s64 98 13 ∧ s 101 25 = ((σ 101 25) + 1)) _ (ip_101_5 Is70 (by omega) (by omega)) (Fs70.up rfl) ⟨es70.1, es70.2.1, es70.2.2.1, es70.2.2.2.1, es70.2.2.2.2.1, rfl⟩ (fun s74 Is74 Fs74 (es74 : s74 98 15 = s64 98 15 ∧ s74 98 16 = s64 98 16 ∧ s74 98 17 = s64 98 17 ∧ s74 98 18 = s64 98 18 ∧ s74 98 13 = s64 98 13 ∧ s74 101 25 = ((σ 101 25) + 1)) => ?_))
          clear es70
          exact h_vret rfl rfl (kk _ Is74 Fs74 (Or.inr (Or.inr ⟨by omega, by omega, by omega⟩)))
      · refine h_aload_n (pc' := 29) rfl rfl rfl ?_
        refine h_iconst (pc' := 30) (x := (Int32.ofInt 3)) rfl rfl rfl ?_
        refine h_call (sp := false) (pc' := 33) (M := [(0, .ref 98), (1, .int (Int32.ofInt 3))]) rfl rfl rfl rfl rfl rfl rfl rfl ?_
        refine h_aload_n (pc' := 1) rfl rfl rfl ?_
        refine h_getI (pc' := 4) (v := s2 98 13) rfl rfl rfl rfl rfl rfl (fun z75 hz75 => ?_)
        have tz75 := tf_98_13 Is2
        refine h_zne (tg := 20) (pc' := 7) rfl rfl rfl hz75 (fun c76 => absurd c76 (by omega)) (fun c76 => ?_)
        refine h_aload_n (pc' := 8) rfl rfl rfl ?_
        refine h_iload_n (pc' := 9) rfl rfl rfl ?_
        refine h_put (pc' := 12) rfl rfl rfl rfl rfl rfl ci_3 rfl (h_fgt (E := fun s => s 98 15 = s2 98 15 ∧ s 98 16 = s2 98 16 ∧ s 98 17 = s2 98 17 ∧ s 98 18 = s2 98 18 ∧ s 98 13 = 3 ∧ s 101 25 = σ 101 25) _ (if_98_13 Is2 (by omega)) (Fs2.up rfl) ⟨rfl, rfl, rfl, rfl, rfl, es2_5⟩ (fun s77 Is77 Fs77 (es77 : s77 98 15 = s2 98 15 ∧ s77 98 16 = s2 98 16 ∧ s77 98 17 = s2 98 17 ∧ s77 98 18 = s2 98 18 ∧ s77 98 13 = 3 ∧ s77 101 25 = σ 101 25) => ?_))
        clear es2_5
        refine h_aload_n (pc' := 13) rfl rfl rfl ?_
        refine h_aload_n (pc' := 14) rfl rfl rfl ?_
        refine h_getI (pc' := 17) (v := s2 98 16) rfl rfl rfl rfl rfl es77.2.1 (fun z78 hz78 => ?_)
        have tz78 := tf_98_16 Is2
        refine h_put (pc' := 20) rfl rfl rfl rfl rfl rfl hz78 rfl (h_fgt (E := fun s => s 98 15 = s2 98 15 ∧ s 98 16 = s2 98 16 ∧ s 98 17 = s2 98 17 ∧ s 98 18 = s2 98 18 ∧ s 98 13 = 3 ∧ s 101 25 = σ 101 25) _ (if_98_14 Is77 (h_rgv hz78)) (Fs77.up rfl) ⟨es77.1, es77.2.1, es77.2.2.1, es77.2.2.2.1, es77.2.2.2.2.1, es77.2.2.2.2.2⟩ (fun s79 Is79 Fs79 (es79 : s79 98 15 = s2 98 15 ∧ s79 98 16 = s2 98 16 ∧ s79 98 17 = s2 98 17 ∧ s79 98 18 = s2 98 18 ∧ s79 98 13 = 3 ∧ s79 101 25 = σ 101 25) => ?_))
        clear es77
        refine h_vret rfl rfl (h_Kn ?_)
        refine h_aload_n (pc' := 34) rfl rfl rfl ?_
        refine h_getR (pc' := 37) rfl rfl rfl rfl rfl ?_
        refine h_iload_n (pc' := 38) rfl rfl rfl ?_
        refine h_iconst (pc' := 39) (x := (Int32.ofInt 2)) rfl rfl rfl ?_
        refine h_iload_n (pc' := 40) rfl rfl rfl ?_
        refine h_imul (pc' := 41) rfl rfl ci_2 hx1 rfl (by omega) (by omega) (fun z80 hz80 => ?_)
        refine h_iadd (pc' := 42) rfl rfl ci_19 hz80 rfl (by omega) (by omega) (fun z81 hz81 => ?_)
        refine h_iload_n (pc' := 43) rfl rfl rfl ?_
        refine h_iast (pc' := 44) rfl rfl rfl rfl hz81 (by omega) (by omega) hr1 (h_fgt (E := fun s => s 98 15 = s2 98 15 ∧ s 98 16 = s2 98 16 ∧ s 98 17 = s2 98 17 ∧ s 98 18 = s2 98 18 ∧ s 98 13 = 3 ∧ s 101 25 = σ 101 25) _ (ip_101_4 Is79 (by omega) (by omega)) (Fs79.up rfl) ⟨es79.1, es79.2.1, es79.2.2.1, es79.2.2.2.1, es79.2.2.2.2.1, h_up_n2 (by omega) es79.2.2.2.2.2⟩ (fun s82 Is82 Fs82 (es82 : s82 98 15 = s2 98 15 ∧ s82 98 16 = s2 98 16 ∧ s82 98 17 = s2 98 17 ∧ s82 98 18 = s2 98 18 ∧ s82 98 13 = 3 ∧ s82 101 25 = σ 101 25) => ?_))
        clear es79
        refine h_aload_n (pc' := 45) rfl rfl rfl ?_
        refine h_getR (pc' := 48) rfl rfl rfl rfl rfl ?_
        refine h_iload_n (pc' := 49) rfl rfl rfl ?_
        refine h_iconst (pc' := 50) (x := (Int32.ofInt 2)) rfl rfl rfl ?_
        refine h_iload_n (pc' := 51) rfl rfl rfl ?_
        refine h_imul (pc' := 52) rfl rfl ci_2 hx1 rfl (by omega) (by omega) (fun z83 hz83 => ?_)
        refine h_iadd (pc' := 53) rfl rfl ci_19 hz83 rfl (by omega) (by omega) (fun z84 hz84 => ?_)
        refine h_iconst (pc' := 54) (x := (Int32.ofInt 1)) rfl rfl rfl ?_
        refine h_iadd (pc' := 55) rfl rfl hz84 ci_1 rfl (by omega) (by omega) (fun z85 hz85 => ?_)
        refine h_aload_n (pc' := 56) rfl rfl rfl ?_
        refine h_call (sp := false) (pc' := 59) (M := [(0, .ref 98)]) rfl rfl rfl rfl rfl rfl rfl rfl ?_
        refine v_oneHere _ Is82  (fun r86 br86 hr86 s87 Is87 Gs87 tr86 ps87_0 pcs87 => h_Kv ?_)
        have Fs87 := (Gs87.mono (B := kf_v_readPair19) rfl).tr Fs82
        have es87_5 : s87 101 25 = σ 101 25 := (Gs87 101 25 rfl).trans es82.2.2.2.2.2
        rcases pcs87 with pcs87 | pcs87 | pcs87
        · refine h_iast (pc' := 60) rfl rfl rfl rfl hz85 (by omega) (by omega) hr86 (h_fgt (E := fun s => s 98 15 = s87 98 15 ∧ s 98 16 = s87 98 16 ∧ s 98 17 = s87 98 17 ∧ s 98 18 = s87 98 18 ∧ s 98 13 = s87 98 13 ∧ s 101 25 = σ 101 25) _ (ip_101_4 Is87 (by omega) (by omega)) (Fs87.up rfl) ⟨rfl, rfl, rfl, rfl, rfl, h_up_n2 (by omega) es87_5⟩ (fun s88 Is88 Fs88 (es88 : s88 98 15 = s87 98 15 ∧ s88 98 16 = s87 98 16 ∧ s88 98 17 = s87 98 17 ∧ s88 98 18 = s87 98 18 ∧ s88 98 13 = s87 98 13 ∧ s88 101 25 = σ 101 25) => ?_))
          clear es87_5
          refine h_aload_n (pc' := 61) rfl rfl rfl ?_
          refine h_getR (pc' := 64) rfl rfl rfl rfl rfl ?_
          refine h_iload_n (pc' := 65) rfl rfl rfl ?_
          refine h_bipush (pc' := 67) (x := (Int32.ofInt 6)) rfl rfl cb_6 ?_
          refine h_iadd (pc' := 68) (c := 25) rfl rfl ci_19 ci_6 rfl (by omega) (by omega) (fun z89 hz89 => ?_)
          refine h_dup2 (pc' := 69) rfl rfl rfl ?_
          refine h_iald (pc' := 70) (v := σ 101 25) rfl rfl rfl hz89 (by omega) (by omega) es88.2.2.2.2.2 (fun z90 hz90 => ?_)
          have tz90 := ty_101_5 hI 25 (by omega)
          refine h_iconst (pc' := 71) (x := (Int32.ofInt 1)) rfl rfl rfl ?_
          refine h_iadd (pc' := 72) rfl rfl hz90 ci_1 rfl (by omega) (by omega) (fun z91 hz91 => ?_)
          refine h_iast (pc' := 73) rfl rfl rfl rfl hz89 (by omega) (by omega) hz91 (h_fgt (E := fun s => s 98 15 = s87 98 15 ∧ s 98 16 = s87 98 16 ∧ s 98 17 = s87 98 17 ∧ s 98 18 = s87 98 18 ∧ s 98 13 = s87 98 13 ∧ s 101 25 = ((σ 101 25) + 1)) _ (ip_101_5 Is88 (by omega) (by omega)) (Fs88.up rfl) ⟨es88.1, es88.2.1, es88.2.2.1, es88.2.2.2.1, es88.2.2.2.2.1, rfl⟩ (fun s92 Is92 Fs92 (es92 : s92 98 15 = s87 98 15 ∧ s92 98 16 = s87 98 16 ∧ s92 98 17 = s87 98 17 ∧ s92 98 18 = s87 98 18 ∧ s92 98 13 = s87 98 13 ∧ s92 101 25 = ((σ 101 25) + 1)) => ?_))
          clear es88
          exact h_vret rfl rfl (kk _ Is92 Fs92 (Or.inr (Or.inl ⟨by omega, by omega, by omega⟩)))
        · exfalso; omega
        · exfalso; omega
