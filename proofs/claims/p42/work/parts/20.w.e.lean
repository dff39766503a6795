def kf_w_211_98 : List Nat := []
theorem w_211_98_l (ns : Nat) (σ : h_S) (hI : h_I σ) {Q : Option Value → h_S → Prop} (kk : ∀ (r : Int32) (b : Int) (hb : r.toInt = b) (τ : h_S), h_I τ → h_F (k_in kf_w_211_98) τ σ → (0 ≤ b ∧ b ≤ 1) → Q (some (.int r)) τ) : ∀ n : Nat, (∀ (s0 : h_S), h_I s0 → h_F (k_in kf_w_211_98) s0 σ → ∀ (y1 : Int32) (b1 : Int), y1.toInt = b1 → (0 ≤ b1 ∧ b1 ≤ 1) → ∀ (y2 : Int32) (b2 : Int), y2.toInt = b2 → (0 ≤ b2 ∧ b2 ≤ 6) → (6 + 1 - b2) * 1000000 + 1000000000 ≤ (n : Int) → h_T g_P (g_Y ns) 211 4 [(0, .ref 98), (1, .int y1), (2, .int y2)] [] s0 Q) := by
  intro n
  induction n with
  | zero => exact by intro s0 I0 F0_ y1 b1 hy1 ry1 y2 b2 hy2 ry2 hm; exfalso; omega
  | succ n ih =>
    intro s0 I0 F0_ y1 b1 hy1 ry1 y2 b2 hy2 ry2 hm
    refine h_iload_n (pc' := 5) rfl rfl rfl ?_
    refine h_aload_n (pc' := 6) rfl rfl rfl ?_
    refine h_getI (pc' := 9) (v := σ 98 29) rfl rfl rfl rfl rfl (F0_ 98 29 rfl) (fun z1 hz1 => ?_)
    have tz1 := tf_98_29 hI
    refine h_cge (tg := 56) (pc' := 12) rfl rfl rfl hy2 hz1 (fun c2 => ?_) (fun c2 => ?_)
    · refine h_iload_n (pc' := 57) rfl rfl rfl ?_
      exact h_zret rfl rfl hy1 (by omega) (kk _ _ hy1 _ I0 F0_ (by omega))
    · refine h_iload_n (pc' := 13) rfl rfl rfl ?_
      refine h_zeq (tg := 48) (pc' := 16) rfl rfl rfl hy1 (fun c3 => ?_) (fun c3 => ?_)
      · refine h_iconst (pc' := 49) (x := (Int32.ofInt 0)) rfl rfl rfl ?_
        refine h_istore_n (pc' := 50) (M := [(1, .int (Int32.ofInt 0)), (0, .ref 98), (2, .int y2)]) rfl rfl rfl rfl ?_
        refine h_iinc (pc' := 53) (M := fun z4 => [(2, .int z4), (1, .int (Int32.ofInt 0)), (0, .ref 98)]) rfl rfl rfl rfl hy2 ci_1 rfl (by omega) (by omega) (fun _ => rfl) (fun z4 hz4 => ?_)
        refine h_goto (pc' := 4) rfl rfl ?_
        exact h_wk [(0, .ref 98), (1, .int (Int32.ofInt 0)), (2, .int z4)] ⟨rfl, rfl, rfl, trivial⟩ (ih _ I0 F0_ (Int32.ofInt 0) _ ci_0 (by omega) z4 _ hz4 (by omega) (by omega))
      · refine h_aload_n (pc' := 17) rfl rfl rfl ?_
        refine h_getI (pc' := 20) (v := σ 98 23) rfl rfl rfl rfl rfl (F0_ 98 23 rfl) (fun z5 hz5 => ?_)
        have tz5 := tf_98_23 hI
        refine h_aload_n (pc' := 21) rfl rfl rfl ?_
        refine h_getR (pc' := 24) rfl rfl rfl rfl rfl ?_
        refine h_iconst (pc' := 25) (x := (Int32.ofInt 2)) rfl rfl rfl ?_
        refine h_iload_n (pc' := 26) rfl rfl rfl ?_
        refine h_imul (pc' := 27) rfl rfl ci_2 hy2 rfl (by omega) (by omega) (fun z6 hz6 => ?_)
        refine h_iald (pc' := 28) (v := σ 108 (2 * b2)) rfl rfl rfl hz6 (by omega) (by omega) (F0_ 108 _ rfl) (fun z7 hz7 => ?_)
        have tz7 := ty_108 hI (2 * b2)
        refine h_ishr (pc' := 29) rfl rfl (fun z8 hz8 => ?_)
        refine h_iconst (pc' := 30) (x := (Int32.ofInt 1)) rfl rfl rfl ?_
        refine h_iand (pc' := 31) rfl rfl (fun z9 hz9 uz9 vz9 => ?_)
        clear uz9
        rw [ci_1] at vz9
        have yz9 := vz9 (by omega)
        refine h_aload_n (pc' := 32) rfl rfl rfl ?_
        refine h_getR (pc' := 35) rfl rfl rfl rfl rfl ?_
        refine h_iconst (pc' := 36) (x := (Int32.ofInt 2)) rfl rfl rfl ?_
        refine h_iload_n (pc' := 37) rfl rfl rfl ?_
        refine h_imul (pc' := 38) rfl rfl ci_2 hy2 rfl (by omega) (by omega) (fun z10 hz10 => ?_)
        refine h_iconst (pc' := 39) (x := (Int32.ofInt 1)) rfl rfl rfl ?_
        refine h_iadd (pc' := 40) rfl rfl hz10 ci_1 rfl (by omega) (by omega) (fun z11 hz11 => ?_)
        refine h_iald (pc' := 41) (v := σ 108 ((2 * b2) + 1)) rfl rfl rfl hz11 (by omega) (by omega) (F0_ 108 _ rfl) (fun z12 hz12 => ?_)
        have tz12 := ty_108 hI ((2 * b2) + 1)
        refine h_cne (tg := 48) (pc' := 44) rfl rfl rfl rfl hz12 (fun c13 => ?_) (fun c13 => ?_)
        · refine h_iconst (pc' := 49) (x := (Int32.ofInt 0)) rfl rfl rfl ?_
          refine h_istore_n (pc' := 50) (M := [(1, .int (Int32.ofInt 0)), (0, .ref 98), (2, .int y2)]) rfl rfl rfl rfl ?_
          refine h_iinc (pc' := 53) (M := fun z14 => [(2, .int z14), (1, .int (Int32.ofInt 0)), (0, .ref 98)]) rfl rfl rfl rfl hy2 ci_1 rfl (by omega) (by omega) (fun _ => rfl) (fun z14 hz14 => ?_)
          refine h_goto (pc' := 4) rfl rfl ?_
          exact h_wk [(0, .ref 98), (1, .int (Int32.ofInt 0)), (2, .int z14)] ⟨rfl, rfl, rfl, trivial⟩ (ih _ I0 F0_ (Int32.ofInt 0) _ ci_0 (by omega) z14 _ hz14 (by omega) (by omega))
        · refine h_iconst (pc' := 45) (x := (Int32.ofInt 1)) rfl rfl rfl ?_
          refine h_goto (pc' := 49) rfl rfl ?_
          refine h_istore_n (pc' := 50) (M := [(1, .int (Int32.ofInt 1)), (0, .ref 98), (2, .int y2)]) rfl rfl rfl rfl ?_
          refine h_iinc (pc' := 53) (M := fun z15 => [(2, .int z15), (1, .int (Int32.ofInt 1)), (0, .ref 98)]) rfl rfl rfl rfl hy2 ci_1 rfl (by omega) (by omega) (fun _ => rfl) (fun z15 hz15 => ?_)
          refine h_goto (pc' := 4) rfl rfl ?_
          exact h_wk [(0, .ref 98), (1, .int (Int32.ofInt 1)), (2, .int z15)] ⟨rfl, rfl, rfl, trivial⟩ (ih _ I0 F0_ (Int32.ofInt 1) _ ci_1 (by omega) z15 _ hz15 (by omega) (by omega))
theorem w_211_98 {ns : Nat} (σ : h_S) (hI : h_I σ) {Q : Option Value → h_S → Prop} (kk : ∀ (r : Int32) (b : Int) (hb : r.toInt = b) (τ : h_S), h_I τ → h_F (k_in kf_w_211_98) τ σ → (0 ≤ b ∧ b ≤ 1) → Q (some (.int r)) τ) : h_T g_P (g_Y ns) 211 0 [(0, .ref 98)] [] σ Q := by
  have F00 : h_F (k_in kf_w_211_98) σ σ := h_F.rf
  refine h_iconst (pc' := 1) (x := (Int32.ofInt 1)) rfl rfl rfl ?_
  refine h_istore_n (pc' := 2) (M := [(1, .int (Int32.ofInt 1)), (0, .ref 98)]) rfl rfl rfl rfl ?_
  refine h_iconst (pc' := 3) (x := (Int32.ofInt 0)) rfl rfl rfl ?_
  refine h_istore_n (pc' := 4) (M := [(2, .int (Int32.ofInt 0)), (1, .int (Int32.ofInt 1)), (0, .ref 98)]) rfl rfl rfl rfl ?_
  exact h_wk [(0, .ref 98), (1, .int (Int32.ofInt 1)), (2, .int (Int32.ofInt 0))] ⟨rfl, rfl, rfl, trivial⟩ ((w_211_98_l ns σ hI  kk 1000000000000) _ hI F00 (Int32.ofInt 1) _ ci_1 (by omega) (Int32.ofInt 0) _ ci_0 (by omega) (by omega))
def kf_w_212_98 : List Nat := [100374, 100375, 101891, 101892, 108543, 112639]
theorem w_212_98_l (ns : Nat) (σ : h_S) (hI : h_I σ) (x0 : Int32) (a0 : Int) (hx0 : x0.toInt = a0) (ra0 : 0 ≤ a0 ∧ a0 ≤ 5) {Q : Option Value → h_S → Prop} (kk : ∀ (r : Int32) (b : Int) (hb : r.toInt = b) (τ : h_S), h_I τ → h_F (k_in kf_w_212_98) τ σ → Q (some (.int r)) τ) : ∀ n : Nat, (∀ (s0 : h_S), h_I s0 → h_F (k_in kf_w_212_98) s0 σ → ∀ (y2 : Int32) (b2 : Int), y2.toInt = b2 → ∀ (y3 : Int32) (b3 : Int), y3.toInt = b3 → (0 ≤ b3 ∧ b3 ≤ 7) → (7 + 1 - b3) * 1000000 + 1000000000 ≤ (n : Int) → h_T g_P (g_Y ns) 212 4 [(0, .ref 98), (1, .int x0), (2, .int y2), (3, .int y3)] [] s0 Q) := by
  intro n
  induction n with
  | zero => exact by intro s0 I0 F0_ y2 b2 hy2 y3 b3 hy3 ry3 hm; exfalso; omega
  | succ n ih =>
    intro s0 I0 F0_ y2 b2 hy2 y3 b3 hy3 ry3 hm
    refine h_iload_n (pc' := 5) rfl rfl rfl ?_
    refine h_bipush (pc' := 7) (x := (Int32.ofInt 6)) rfl rfl cb_6 ?_
    refine h_cgt (tg := 93) (pc' := 10) rfl rfl rfl hy3 ci_6 (fun c1 => ?_) (fun c1 => ?_)
    · refine h_iload_n (pc' := 94) rfl rfl rfl ?_
      exact h_iret rfl rfl (kk _ _ hy2 _ I0 F0_)
    · refine h_iload_n (pc' := 11) rfl rfl rfl ?_
      refine h_iload_n (pc' := 12) rfl rfl rfl ?_
      refine h_clt (tg := 21) (pc' := 15) rfl rfl rfl hy3 hx0 (fun c2 => ?_) (fun c2 => ?_)
      · refine h_aload_n (pc' := 22) rfl rfl rfl ?_
        refine h_iconst (pc' := 23) (x := (Int32.ofInt 0)) rfl rfl rfl ?_
        refine h_sipush (pc' := 26) (x := (Int32.ofInt 176)) rfl rfl cs_176 ?_
        refine h_call (sp := false) (pc' := 29) (M := [(0, .ref 98), (1, .int (Int32.ofInt 0)), (2, .int (Int32.ofInt 176))]) rfl rfl rfl rfl rfl rfl rfl rfl ?_
        refine w_190_98_e176 _ I0 (Int32.ofInt 0) _ ci_0 (by omega)  (fun s4 Is4 Gs4 => h_Kn ?_)
        have Fs4 := (Gs4.mono (B := kf_w_212_98) rfl).tr F0_
        refine h_aload_n (pc' := 30) rfl rfl rfl ?_
        refine h_getR (pc' := 33) rfl rfl rfl rfl rfl ?_
        refine h_sipush (pc' := 36) (x := (Int32.ofInt 182)) rfl rfl cs_182 ?_
        refine h_iload_n (pc' := 37) rfl rfl rfl ?_
        refine h_iadd (pc' := 38) rfl rfl ci_182 hx0 rfl (by omega) (by omega) (fun z5 hz5 => ?_)
        refine h_iload_n (pc' := 39) rfl rfl rfl ?_
        refine h_bipush (pc' := 41) (x := (Int32.ofInt 6)) rfl rfl cb_6 ?_
        refine h_cne (tg := 48) (pc' := 44) rfl rfl rfl hy3 ci_6 (fun c6 => ?_) (fun c6 => absurd c6 (by omega))
        refine h_iload_n (pc' := 49) rfl rfl rfl ?_
        refine h_iconst (pc' := 50) (x := (Int32.ofInt 1)) rfl rfl rfl ?_
        refine h_iadd (pc' := 51) rfl rfl hy3 ci_1 rfl (by omega) (by omega) (fun z7 hz7 => ?_)
        refine h_iast (pc' := 52) rfl rfl rfl rfl hz5 (by omega) (by omega) hz7 (h_fg _ (ip_99_1 Is4 (by omega) (by omega)) (Fs4.up (k_ipg (p := 4) rfl rfl (by omega))) (fun s8 Is8 Fs8 => ?_))
        refine h_aload_n (pc' := 53) rfl rfl rfl ?_
        refine h_sipush (pc' := 56) (x := (Int32.ofInt 176)) rfl rfl cs_176 ?_
        refine h_iconst (pc' := 57) (x := (Int32.ofInt 0)) rfl rfl rfl ?_
        refine h_call (sp := false) (pc' := 60) (M := [(0, .ref 98), (1, .int (Int32.ofInt 176)), (2, .int (Int32.ofInt 0))]) rfl rfl rfl rfl rfl rfl rfl rfl ?_
        refine w_191_98 _ Is8 (Int32.ofInt 176) _ ci_176 (by omega) (Int32.ofInt 0) _ ci_0 (fun s10 Is10 Gs10 => h_Kn ?_)
        have Fs10 := (Gs10.mono (B := kf_w_212_98) rfl).tr Fs8
        refine h_aload_n (pc' := 61) rfl rfl rfl ?_
        refine h_getR (pc' := 64) rfl rfl rfl rfl rfl ?_
        refine h_iload_n (pc' := 65) rfl rfl rfl ?_
        refine h_aload_n (pc' := 66) rfl rfl rfl ?_
        refine h_getI (pc' := 69) (v := s10 98 23) rfl rfl rfl rfl rfl rfl (fun z11 hz11 => ?_)
        have tz11 := tf_98_23 Is10
        refine h_iast (pc' := 70) rfl rfl rfl rfl hy3 (by omega) (by omega) hz11 (h_fg _ (in_109 Is10 (h_rgv hz11)) (Fs10.up rfl) (fun s12 Is12 Fs12 => ?_))
        refine h_iload_n (pc' := 71) rfl rfl rfl ?_
        refine h_aload_n (pc' := 72) rfl rfl rfl ?_
        refine h_call (sp := false) (pc' := 75) (M := [(0, .ref 98)]) rfl rfl rfl rfl rfl rfl rfl rfl ?_
        refine w_211_98 _ Is12  (fun r13 br13 hr13 s14 Is14 Gs14 tr13 => h_Kv ?_)
        have Fs14 := (Gs14.mono (B := kf_w_212_98) rfl).tr Fs12
        refine h_zeq (tg := 84) (pc' := 78) rfl rfl rfl hr13 (fun c15 => ?_) (fun c15 => ?_)
        · refine h_iconst (pc' := 85) (x := (Int32.ofInt 0)) rfl rfl rfl ?_
          refine h_ior (pc' := 86) rfl rfl (fun z16 hz16 => ?_)
          refine h_istore_n (pc' := 87) (M := [(2, .int z16), (0, .ref 98), (1, .int x0), (3, .int y3)]) rfl rfl rfl rfl ?_
          refine h_iinc (pc' := 90) (M := fun z17 => [(3, .int z17), (2, .int z16), (0, .ref 98), (1, .int x0)]) rfl rfl rfl rfl hy3 ci_1 rfl (by omega) (by omega) (fun _ => rfl) (fun z17 hz17 => ?_)
          refine h_goto (pc' := 4) rfl rfl ?_
          exact h_wk [(0, .ref 98), (1, .int x0), (2, .int z16), (3, .int z17)] ⟨rfl, rfl, rfl, rfl, trivial⟩ (ih _ Is14 Fs14 z16 _ rfl z17 _ hz17 (by omega) (by omega))
        · refine h_iconst (pc' := 79) (x := (Int32.ofInt 1)) rfl rfl rfl ?_
          refine h_iload_n (pc' := 80) rfl rfl rfl ?_
          refine h_shl1 (pc' := 81) rfl rfl ci_1 hy3 (by omega) (by omega) (fun z18 hz18 vz18 => ?_)
          refine h_goto (pc' := 85) rfl rfl ?_
          refine h_ior (pc' := 86) rfl rfl (fun z19 hz19 => ?_)
          refine h_istore_n (pc' := 87) (M := [(2, .int z19), (0, .ref 98), (1, .int x0), (3, .int y3)]) rfl rfl rfl rfl ?_
          refine h_iinc (pc' := 90) (M := fun z20 => [(3, .int z20), (2, .int z19), (0, .ref 98), (1, .int x0)]) rfl rfl rfl rfl hy3 ci_1 rfl (by omega) (by omega) (fun _ => rfl) (fun z20 hz20 => ?_)
          refine h_goto (pc' := 4) rfl rfl ?_
          exact h_wk [(0, .ref 98), (1, .int x0), (2, .int z19), (3, .int z20)] ⟨rfl, rfl, rfl, rfl, trivial⟩ (ih _ Is14 Fs14 z19 _ rfl z20 _ hz20 (by omega) (by omega))
      · refine h_iload_n (pc' := 16) rfl rfl rfl ?_
        refine h_bipush (pc' := 18) (x := (Int32.ofInt 6)) rfl rfl cb_6 ?_
        refine h_cne (tg := 87) (pc' := 21) rfl rfl rfl hy3 ci_6 (fun c21 => ?_) (fun c21 => ?_)
        · refine h_iinc (pc' := 90) (M := fun z22 => [(3, .int z22), (0, .ref 98), (1, .int x0), (2, .int y2)]) rfl rfl rfl rfl hy3 ci_1 rfl (by omega) (by omega) (fun _ => rfl) (fun z22 hz22 => ?_)
          refine h_goto (pc' := 4) rfl rfl ?_
          exact h_wk [(0, .ref 98), (1, .int x0), (2, .int y2), (3, .int z22)] ⟨rfl, rfl, rfl, rfl, trivial⟩ (ih _ I0 F0_ y2 _ hy2 z22 _ hz22 (by omega) (by omega))
        · refine h_aload_n (pc' := 22) rfl rfl rfl ?_
          refine h_iconst (pc' := 23) (x := (Int32.ofInt 0)) rfl rfl rfl ?_
          refine h_sipush (pc' := 26) (x := (Int32.ofInt 176)) rfl rfl cs_176 ?_
          refine h_call (sp := false) (pc' := 29) (M := [(0, .ref 98), (1, .int (Int32.ofInt 0)), (2, .int (Int32.ofInt 176))]) rfl rfl rfl rfl rfl rfl rfl rfl ?_
          refine w_190_98_e176 _ I0 (Int32.ofInt 0) _ ci_0 (by omega)  (fun s24 Is24 Gs24 => h_Kn ?_)
          have Fs24 := (Gs24.mono (B := kf_w_212_98) rfl).tr F0_
          refine h_aload_n (pc' := 30) rfl rfl rfl ?_
          refine h_getR (pc' := 33) rfl rfl rfl rfl rfl ?_
          refine h_sipush (pc' := 36) (x := (Int32.ofInt 182)) rfl rfl cs_182 ?_
          refine h_iload_n (pc' := 37) rfl rfl rfl ?_
          refine h_iadd (pc' := 38) rfl rfl ci_182 hx0 rfl (by omega) (by omega) (fun z25 hz25 => ?_)
          refine h_iload_n (pc' := 39) rfl rfl rfl ?_
          refine h_bipush (pc' := 41) (x := (Int32.ofInt 6)) rfl rfl cb_6 ?_
          refine h_cne (tg := 48) (pc' := 44) rfl rfl rfl hy3 ci_6 (fun c26 => absurd c26 (by omega)) (fun c26 => ?_)
          refine h_iconst (pc' := 45) (x := (Int32.ofInt 0)) rfl rfl rfl ?_
          refine h_goto (pc' := 51) rfl rfl ?_
          refine h_iast (pc' := 52) rfl rfl rfl rfl hz25 (by omega) (by omega) ci_0 (h_fg _ (ip_99_1 Is24 (by omega) (by omega)) (Fs24.up (k_ipg (p := 4) rfl rfl (by omega))) (fun s27 Is27 Fs27 => ?_))
          refine h_aload_n (pc' := 53) rfl rfl rfl ?_
          refine h_sipush (pc' := 56) (x := (Int32.ofInt 176)) rfl rfl cs_176 ?_
          refine h_iconst (pc' := 57) (x := (Int32.ofInt 0)) rfl rfl rfl ?_
          refine h_call (sp := false) (pc' := 60) (M := [(0, .ref 98), (1, .int (Int32.ofInt 176)), (2, .int (Int32.ofInt 0))]) rfl rfl rfl rfl rfl rfl rfl rfl ?_
          refine w_191_98 _ Is27 (Int32.ofInt 176) _ ci_176 (by omega) (Int32.ofInt 0) _ ci_0 (fun s29 Is29 Gs29 => h_Kn ?_)
          have Fs29 := (Gs29.mono (B := kf_w_212_98) rfl).tr Fs27
          refine h_aload_n (pc' := 61) rfl rfl rfl ?_
          refine h_getR (pc' := 64) rfl rfl rfl rfl rfl ?_
          refine h_iload_n (pc' := 65) rfl rfl rfl ?_
          refine h_aload_n (pc' := 66) rfl rfl rfl ?_
          refine h_getI (pc' := 69) (v := s29 98 23) rfl rfl rfl rfl rfl rfl (fun z30 hz30 => ?_)
          have tz30 := tf_98_23 Is29
          refine h_iast (pc' := 70) rfl rfl rfl rfl hy3 (by omega) (by omega) hz30 (h_fg _ (in_109 Is29 (h_rgv hz30)) (Fs29.up rfl) (fun s31 Is31 Fs31 => ?_))
          refine h_iload_n (pc' := 71) rfl rfl rfl ?_
          refine h_aload_n (pc' := 72) rfl rfl rfl ?_
          refine h_call (sp := false) (pc' := 75) (M := [(0, .ref 98)]) rfl rfl rfl rfl rfl rfl rfl rfl ?_
          refine w_211_98 _ Is31  (fun r32 br32 hr32 s33 Is33 Gs33 tr32 => h_Kv ?_)
          have Fs33 := (Gs33.mono (B := kf_w_212_98) rfl).tr Fs31
          refine h_zeq (tg := 84) (pc' := 78) rfl rfl rfl hr32 (fun c34 => ?_) (fun c34 => ?_)
          · refine h_iconst (pc' := 85) (x := (Int32.ofInt 0)) rfl rfl rfl ?_
            refine h_ior (pc' := 86) rfl rfl (fun z35 hz35 => ?_)
            refine h_istore_n (pc' := 87) (M := [(2, .int z35), (0, .ref 98), (1, .int x0), (3, .int y3)]) rfl rfl rfl rfl ?_
            refine h_iinc (pc' := 90) (M := fun z36 => [(3, .int z36), (2, .int z35), (0, .ref 98), (1, .int x0)]) rfl rfl rfl rfl hy3 ci_1 rfl (by omega) (by omega) (fun _ => rfl) (fun z36 hz36 => ?_)
            refine h_goto (pc' := 4) rfl rfl ?_
            exact h_wk [(0, .ref 98), (1, .int x0), (2, .int z35), (3, .int z36)] ⟨rfl, rfl, rfl, rfl, trivial⟩ (ih _ Is33 Fs33 z35 _ rfl z36 _ hz36 (by omega) (by omega))
          · refine h_iconst (pc' := 79) (x := (Int32.ofInt 1)) rfl rfl rfl ?_
            refine h_iload_n (pc' := 80) rfl rfl rfl ?_
            refine h_shl1 (pc' := 81) rfl rfl ci_1 hy3 (by omega) (by omega) (fun z37 hz37 vz37 => ?_)
            refine h_goto (pc' := 85) rfl rfl ?_
            refine h_ior (pc' := 86) rfl rfl (fun z38 hz38 => ?_)
            refine h_istore_n (pc' := 87) (M := [(2, .int z38), (0, .ref 98), (1, .int x0), (3, .int y3)]) rfl rfl rfl rfl ?_
            refine h_iinc (pc' := 90) (M := fun z39 => [(3, .int z39), (2, .int z38), (0, .ref 98), (1, .int x0)]) rfl rfl rfl rfl hy3 ci_1 rfl (by omega) (by omega) (fun _ => rfl) (fun z39 hz39 => ?_)
            refine h_goto (pc' := 4) rfl rfl ?_
            exact h_wk [(0, .ref 98), (1, .int x0), (2, .int z38), (3, .int z39)] ⟨rfl, rfl, rfl, rfl, trivial⟩ (ih _ Is33 Fs33 z38 _ rfl z39 _ hz39 (by omega) (by omega))
theorem w_212_98 {ns : Nat} (σ : h_S) (hI : h_I σ) (x0 : Int32) (a0 : Int) (hx0 : x0.toInt = a0) (ra0 : 0 ≤ a0 ∧ a0 ≤ 5) {Q : Option Value → h_S → Prop} (kk : ∀ (r : Int32) (b : Int) (hb : r.toInt = b) (τ : h_S), h_I τ → h_F (k_in kf_w_212_98) τ σ → Q (some (.int r)) τ) : h_T g_P (g_Y ns) 212 0 [(0, .ref 98), (1, .int x0)] [] σ Q := by
  have F00 : h_F (k_in kf_w_212_98) σ σ := h_F.rf
  refine h_iconst (pc' := 1) (x := (Int32.ofInt 0)) rfl rfl rfl ?_
  refine h_istore_n (pc' := 2) (M := [(2, .int (Int32.ofInt 0)), (0, .ref 98), (1, .int x0)]) rfl rfl rfl rfl ?_
  refine h_iconst (pc' := 3) (x := (Int32.ofInt 0)) rfl rfl rfl ?_
  refine h_istore_n (pc' := 4) (M := [(3, .int (Int32.ofInt 0)), (2, .int (Int32.ofInt 0)), (0, .ref 98), (1, .int x0)]) rfl rfl rfl rfl ?_
  exact h_wk [(0, .ref 98), (1, .int x0), (2, .int (Int32.ofInt 0)), (3, .int (Int32.ofInt 0))] ⟨rfl, rfl, rfl, rfl, trivial⟩ ((w_212_98_l ns σ hI x0 a0 hx0 ra0 kk 1000000000000) _ hI F00 (Int32.ofInt 0) _ ci_0 (Int32.ofInt 0) _ ci_0 (by omega) (by omega))
def kf_w_180_98_e0 : List Nat := [101898, 101899]
theorem w_180_98_e0 {ns : Nat} (σ : h_S) (hI : h_I σ) (x1 : Int32) (a1 : Int) (hx1 : x1.toInt = a1) (x2 : Int32) (a2 : Int) (hx2 : x2.toInt = a2) {Q : Option Value → h_S → Prop} (kk : ∀ (r : Int32) (b : Int) (hb : r.toInt = b) (τ : h_S), h_I τ → h_F (k_in kf_w_180_98_e0) τ σ → ((-3) ≤ b ∧ b ≤ 3) → Q (some (.int r)) τ) : h_T g_P (g_Y ns) 180 0 [(0, .ref 98), (1, .int (Int32.ofInt 0)), (2, .int x1), (3, .int x2)] [] σ Q := by
  have F00 : h_F (k_in kf_w_180_98_e0) σ σ := h_F.rf
  refine h_aload_n (pc' := 1) rfl rfl rfl ?_
  refine h_iload_n (pc' := 2) rfl rfl rfl ?_
  refine h_call (sp := false) (pc' := 5) (M := [(0, .ref 98), (1, .int x1)]) rfl rfl rfl rfl rfl rfl rfl rfl ?_
  refine h_iload_n (pc' := 1) rfl rfl rfl ?_
  refine h_i2l (pc' := 2) rfl rfl hx1 (fun z1 hz1 => ?_)
  refine h_lconst (pc' := 3) (x := (Int64.ofInt 0)) rfl rfl rfl ?_
  refine h_aload_n (pc' := 4) rfl rfl rfl ?_
  refine h_getI (pc' := 7) (v := σ 98 1) rfl rfl rfl rfl rfl rfl (fun z2 hz2 => ?_)
  have tz2 := tf_98_1 hI
  refine h_iconst (pc' := 8) (x := (Int32.ofInt 1)) rfl rfl rfl ?_
  refine h_isub (pc' := 9) rfl rfl hz2 ci_1 rfl (by omega) (by omega) (fun z3 hz3 => ?_)
  refine h_i2l (pc' := 10) rfl rfl hz3 (fun z4 hz4 => ?_)
  refine h_calls (pc' := 13) (M := [(0, .long z1), (2, .long (Int64.ofInt 0)), (4, .long z4)]) rfl rfl rfl rfl rfl rfl ?_
  refine h_lload_n (pc' := 1) rfl rfl rfl ?_
  refine h_lload_n (pc' := 2) rfl rfl rfl ?_
  refine h_lcmp (pc' := 3) rfl rfl hz1 cl_0 (fun z5 hz5 => ?_)
  refine h_zlt (tg := 17) (pc' := 6) rfl rfl rfl rfl (fun c6 => ?_) (fun c6 => ?_)
  · replace c6 := (h_lcr hz5).1 c6
    clear hz5
    refine h_iconst (pc' := 18) (x := (Int32.ofInt 0)) rfl rfl rfl ?_
    refine h_zret rfl rfl ci_0 (by omega) (h_Kv ?_)
    refine h_zret rfl rfl ci_0 (by omega) (h_Kv ?_)
    refine h_zeq (tg := 21) (pc' := 8) rfl rfl rfl ci_0 (fun c7 => ?_) (fun c7 => absurd c7 (by omega))
    refine h_iconst (pc' := 22) (x := (Int32.ofInt (-1))) rfl rfl rfl ?_
    exact h_iret rfl rfl (kk _ _ ci_m1 _ hI F00 (by omega))
  · replace c6 := (h_lcr hz5).2.1 c6
    clear hz5
    refine h_lload_n (pc' := 7) rfl rfl rfl ?_
    refine h_lload (pc' := 9) rfl rfl rfl ?_
    refine h_lcmp (pc' := 10) rfl rfl hz1 hz4 (fun z8 hz8 => ?_)
    refine h_zgt (tg := 17) (pc' := 13) rfl rfl rfl rfl (fun c9 => ?_) (fun c9 => ?_)
    · replace c9 := (h_lcr hz8).2.2.2.1 c9
      clear hz8
      refine h_iconst (pc' := 18) (x := (Int32.ofInt 0)) rfl rfl rfl ?_
      refine h_zret rfl rfl ci_0 (by omega) (h_Kv ?_)
      refine h_zret rfl rfl ci_0 (by omega) (h_Kv ?_)
      refine h_zeq (tg := 21) (pc' := 8) rfl rfl rfl ci_0 (fun c10 => ?_) (fun c10 => absurd c10 (by omega))
      refine h_iconst (pc' := 22) (x := (Int32.ofInt (-1))) rfl rfl rfl ?_
      exact h_iret rfl rfl (kk _ _ ci_m1 _ hI F00 (by omega))
    · replace c9 := (h_lcr hz8).2.2.1 c9
      clear hz8
      refine h_iconst (pc' := 14) (x := (Int32.ofInt 1)) rfl rfl rfl ?_
      refine h_goto (pc' := 18) rfl rfl ?_
      refine h_zret rfl rfl ci_1 (by omega) (h_Kv ?_)
      refine h_zret rfl rfl ci_1 (by omega) (h_Kv ?_)
      refine h_zeq (tg := 21) (pc' := 8) rfl rfl rfl ci_1 (fun c11 => absurd c11 (by omega)) (fun c11 => ?_)
      refine h_aload_n (pc' := 9) rfl rfl rfl ?_
      refine h_iload_n (pc' := 10) rfl rfl rfl ?_
      refine h_call (sp := false) (pc' := 13) (M := [(0, .ref 98), (1, .int x2)]) rfl rfl rfl rfl rfl rfl rfl rfl ?_
      refine h_iload_n (pc' := 1) rfl rfl rfl ?_
      refine h_i2l (pc' := 2) rfl rfl hx2 (fun z12 hz12 => ?_)
      refine h_lconst (pc' := 3) (x := (Int64.ofInt 0)) rfl rfl rfl ?_
      refine h_aload_n (pc' := 4) rfl rfl rfl ?_
      refine h_getI (pc' := 7) (v := σ 98 1) rfl rfl rfl rfl rfl rfl (fun z13 hz13 => ?_)
      have tz13 := tf_98_1 hI
      refine h_iconst (pc' := 8) (x := (Int32.ofInt 1)) rfl rfl rfl ?_
      refine h_isub (pc' := 9) rfl rfl hz13 ci_1 rfl (by omega) (by omega) (fun z14 hz14 => ?_)
      refine h_i2l (pc' := 10) rfl rfl hz14 (fun z15 hz15 => ?_)
      refine h_calls (pc' := 13) (M := [(0, .long z12), (2, .long (Int64.ofInt 0)), (4, .long z15)]) rfl rfl rfl rfl rfl rfl ?_
      refine h_lload_n (pc' := 1) rfl rfl rfl ?_
      refine h_lload_n (pc' := 2) rfl rfl rfl ?_
      refine h_lcmp (pc' := 3) rfl rfl hz12 cl_0 (fun z16 hz16 => ?_)
      refine h_zlt (tg := 17) (pc' := 6) rfl rfl rfl rfl (fun c17 => ?_) (fun c17 => ?_)
      · replace c17 := (h_lcr hz16).1 c17
        clear hz16
        refine h_iconst (pc' := 18) (x := (Int32.ofInt 0)) rfl rfl rfl ?_
        refine h_zret rfl rfl ci_0 (by omega) (h_Kv ?_)
        refine h_zret rfl rfl ci_0 (by omega) (h_Kv ?_)
        refine h_zeq (tg := 21) (pc' := 16) rfl rfl rfl ci_0 (fun c18 => ?_) (fun c18 => absurd c18 (by omega))
        refine h_iconst (pc' := 22) (x := (Int32.ofInt (-1))) rfl rfl rfl ?_
        exact h_iret rfl rfl (kk _ _ ci_m1 _ hI F00 (by omega))
      · replace c17 := (h_lcr hz16).2.1 c17
        clear hz16
        refine h_lload_n (pc' := 7) rfl rfl rfl ?_
        refine h_lload (pc' := 9) rfl rfl rfl ?_
        refine h_lcmp (pc' := 10) rfl rfl hz12 hz15 (fun z19 hz19 => ?_)
        refine h_zgt (tg := 17) (pc' := 13) rfl rfl rfl rfl (fun c20 => ?_) (fun c20 => ?_)
        · replace c20 := (h_lcr hz19).2.2.2.1 c20
          clear hz19
          refine h_iconst (pc' := 18) (x := (Int32.ofInt 0)) rfl rfl rfl ?_
          refine h_zret rfl rfl ci_0 (by omega) (h_Kv ?_)
          refine h_zret rfl rfl ci_0 (by omega) (h_Kv ?_)
          refine h_zeq (tg := 21) (pc' := 16) rfl rfl rfl ci_0 (fun c21 => ?_) (fun c21 => absurd c21 (by omega))
          refine h_iconst (pc' := 22) (x := (Int32.ofInt (-1))) rfl rfl rfl ?_
          exact h_iret rfl rfl (kk _ _ ci_m1 _ hI F00 (by omega))
        · replace c20 := (h_lcr hz19).2.2.1 c20
          clear hz19
          refine h_iconst (pc' := 14) (x := (Int32.ofInt 1)) rfl rfl rfl ?_
          refine h_goto (pc' := 18) rfl rfl ?_
          refine h_zret rfl rfl ci_1 (by omega) (h_Kv ?_)
          refine h_zret rfl rfl ci_1 (by omega) (h_Kv ?_)
          refine h_zeq (tg := 21) (pc' := 16) rfl rfl rfl ci_1 (fun c22 => absurd c22 (by omega)) (fun c22 => ?_)
          refine h_iload_n (pc' := 17) rfl rfl rfl ?_
          refine h_iload_n (pc' := 18) rfl rfl rfl ?_
          refine h_cne (tg := 23) (pc' := 21) rfl rfl rfl hx1 hx2 (fun c23 => ?_) (fun c23 => ?_)
          · refine h_iload_n (pc' := 24) rfl rfl rfl ?_
            refine h_calls (pc' := 27) (M := [(0, .int (Int32.ofInt 0))]) rfl rfl rfl rfl rfl rfl ?_
            refine h_iload_n (pc' := 1) rfl rfl rfl ?_
            refine h_zne (tg := 9) (pc' := 4) rfl rfl rfl ci_0 (fun c24 => absurd c24 (by omega)) (fun c24 => ?_)
            refine h_bipush (pc' := 6) (x := (Int32.ofInt 12)) rfl rfl cb_12 ?_
            refine h_goto (pc' := 11) rfl rfl ?_
            refine h_iret rfl rfl (h_Kv ?_)
            refine h_istore (pc' := 29) (M := [(4, .int (Int32.ofInt 12)), (0, .ref 98), (1, .int (Int32.ofInt 0)), (2, .int x1), (3, .int x2)]) rfl rfl rfl rfl ?_
            refine h_aload_n (pc' := 30) rfl rfl rfl ?_
            refine h_getR (pc' := 33) rfl rfl rfl rfl rfl ?_
            refine h_iload (pc' := 35) rfl rfl rfl ?_
            refine h_bipush (pc' := 37) (x := (Int32.ofInt 6)) rfl rfl cb_6 ?_
            refine h_iadd (pc' := 38) (c := 18) rfl rfl ci_12 ci_6 rfl (by omega) (by omega) (fun z25 hz25 => ?_)
            refine h_iald (pc' := 39) (v := σ 99 18) rfl rfl rfl hz25 (by omega) (by omega) rfl (fun z26 hz26 => ?_)
            have tz26 := ty_99_3 hI 18 (by omega)
            refine h_istore (pc' := 41) (M := [(5, .int z26), (4, .int (Int32.ofInt 12)), (0, .ref 98), (1, .int (Int32.ofInt 0)), (2, .int x1), (3, .int x2)]) rfl rfl rfl rfl ?_
            refine h_iload (pc' := 43) rfl rfl rfl ?_
            refine h_iconst (pc' := 44) (x := (Int32.ofInt 3)) rfl rfl rfl ?_
            refine h_cne (tg := 50) (pc' := 47) rfl rfl rfl hz26 ci_3 (fun c27 => ?_) (fun c27 => ?_)
            · refine h_aload_n (pc' := 51) rfl rfl rfl ?_
              refine h_getR (pc' := 54) rfl rfl rfl rfl rfl ?_
              refine h_iload (pc' := 56) rfl rfl rfl ?_
              refine h_iconst (pc' := 57) (x := (Int32.ofInt 2)) rfl rfl rfl ?_
              refine h_iload (pc' := 59) rfl rfl rfl ?_
              refine h_imul (pc' := 60) rfl rfl ci_2 hz26 rfl (by omega) (by omega) (fun z28 hz28 => ?_)
              refine h_iadd (pc' := 61) rfl rfl ci_12 hz28 rfl (by omega) (by omega) (fun z29 hz29 => ?_)
              refine h_iload_n (pc' := 62) rfl rfl rfl ?_
              refine h_iast (pc' := 63) rfl rfl rfl rfl hz29 (by omega) (by omega) hx1 ?_
              have Is30 : h_I (h_up σ 99 (12 + (2 * (σ 99 18))) a1) := (ip_99_2 hI (by omega) (by omega))
              have Fs30 := (F00.up (q := 99) (a := (12 + (2 * (σ 99 18)))) (v := a1) (k_is2 rfl (by omega)))
              have es30_0 := h_up_at (σ := σ) (q := 99) (j := (12 + (2 * (σ 99 18)))) (v := a1) (i := 18)
              generalize h_up σ 99 (12 + (2 * (σ 99 18))) a1 = s30 at Is30 Fs30 es30_0 ⊢
              refine h_aload_n (pc' := 64) rfl rfl rfl ?_
              refine h_getR (pc' := 67) rfl rfl rfl rfl rfl ?_
              refine h_iload (pc' := 69) rfl rfl rfl ?_
              refine h_iconst (pc' := 70) (x := (Int32.ofInt 2)) rfl rfl rfl ?_
              refine h_iload (pc' := 72) rfl rfl rfl ?_
              refine h_imul (pc' := 73) rfl rfl ci_2 hz26 rfl (by omega) (by omega) (fun z31 hz31 => ?_)
              refine h_iadd (pc' := 74) rfl rfl ci_12 hz31 rfl (by omega) (by omega) (fun z32 hz32 => ?_)
              refine h_iconst (pc' := 75) (x := (Int32.ofInt 1)) rfl rfl rfl ?_
              refine h_iadd (pc' := 76) rfl rfl hz32 ci_1 rfl (by omega) (by omega) (fun z33 hz33 => ?_)
              refine h_iload_n (pc' := 77) rfl rfl rfl ?_
              refine h_iast (pc' := 78) rfl rfl rfl rfl hz33 (by omega) (by omega) hx2 ?_
              have Is34 : h_I (h_up s30 99 ((12 + (2 * (σ 99 18))) + 1) a2) := (ip_99_2 Is30 (by omega) (by omega))
              have Fs34 := (Fs30.up (q := 99) (a := ((12 + (2 * (σ 99 18))) + 1)) (v := a2) (k_is2 rfl (by omega)))
              have es34_0 := h_up_at (σ := s30) (q := 99) (j := ((12 + (2 * (σ 99 18))) + 1)) (v := a2) (i := 18)
              generalize h_up s30 99 ((12 + (2 * (σ 99 18))) + 1) a2 = s34 at Is34 Fs34 es34_0 ⊢
              refine h_aload_n (pc' := 79) rfl rfl rfl ?_
              refine h_getR (pc' := 82) rfl rfl rfl rfl rfl ?_
              refine h_iload (pc' := 84) rfl rfl rfl ?_
              refine h_bipush (pc' := 86) (x := (Int32.ofInt 6)) rfl rfl cb_6 ?_
              refine h_iadd (pc' := 87) (c := 18) rfl rfl ci_12 ci_6 rfl (by omega) (by omega) (fun z35 hz35 => ?_)
              refine h_dup2 (pc' := 88) rfl rfl rfl ?_
              refine h_iald (pc' := 89) (v := s34 99 18) rfl rfl rfl hz35 (by omega) (by omega) rfl (fun z36 hz36 => ?_)
              have tz36 := ty_99_3 Is34 18 (by omega)
              refine h_iconst (pc' := 90) (x := (Int32.ofInt 1)) rfl rfl rfl ?_
              refine h_iadd (pc' := 91) rfl rfl hz36 ci_1 rfl (by omega) (by omega) (fun z37 hz37 => ?_)
              refine h_iast (pc' := 92) rfl rfl rfl rfl hz35 (by omega) (by omega) hz37 ?_
              have Is38 : h_I (h_up s34 99 18 ((s34 99 18) + 1)) := (ip_99_3 Is34 (by omega) (by omega))
              have Fs38 := (Fs34.up (q := 99) (a := 18) (v := ((s34 99 18) + 1)) (k_is3 rfl (by omega)))
              have es38_0 : h_up s34 99 18 ((s34 99 18) + 1) 99 18 = ((s34 99 18) + 1) := rfl
              generalize h_up s34 99 18 ((s34 99 18) + 1) = s38 at Is38 Fs38 es38_0 ⊢
              refine h_iload (pc' := 94) rfl rfl rfl ?_
              refine h_iconst (pc' := 95) (x := (Int32.ofInt 1)) rfl rfl rfl ?_
              refine h_iadd (pc' := 96) rfl rfl hz26 ci_1 rfl (by omega) (by omega) (fun z39 hz39 => ?_)
              exact h_iret rfl rfl (kk _ _ hz39 _ Is38 Fs38 (by omega))
            · refine h_bipush (pc' := 49) (x := (Int32.ofInt (-3))) rfl rfl cb_m3 ?_
              exact h_iret rfl rfl (kk _ _ ci_m3 _ hI F00 (by omega))
          · refine h_iconst (pc' := 22) (x := (Int32.ofInt (-1))) rfl rfl rfl ?_
            exact h_iret rfl rfl (kk _ _ ci_m1 _ hI F00 (by omega))
