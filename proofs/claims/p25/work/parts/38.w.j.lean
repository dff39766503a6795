def kf_n_chart : List Nat := [90111, 91135]
set_option maxHeartbeats 100000000 in
set_option maxHeartbeats 100000000 in
theorem n_chart_l (ns : Nat) (σ : h_S) (hI : h_I σ) {Q : Option Value → h_S → Prop} (kk : ∀ (τ : h_S), h_I τ → h_F (k_in kf_n_chart) τ σ → (τ 87 ((g_2p (σ 85 4) - 1) * 7 + 6) = g_T (σ 85 4).toNat (fun l p => g_bi (σ 86 l) p) 6 (fun _ => true) 6) → Q none τ) : ∀ n : Nat, (∀ (s0 : h_S), h_I s0 → h_F (k_in kf_n_chart) s0 σ → ∀ (y1 : Int32) (b1 : Int), y1.toInt = b1 → (0 ≤ b1 ∧ b1 ≤ 64) → (g_tb (σ 85 4).toNat (fun l p => g_bi (σ 86 l) p) (s0 87) b1 0) → (b1 ≤ g_2p (σ 85 4)) → (64 + 1 - b1) * 1000000 + 1000000000 ≤ (n : Int) → h_T g_P (g_Y ns) 33 2 [(0, .ref 85), (1, .int y1)] [] s0 Q) ∧ (∀ (s0 : h_S), h_I s0 → h_F (k_in kf_n_chart) s0 σ → ∀ (y1 : Int32) (b1 : Int), y1.toInt = b1 → (0 ≤ b1 ∧ b1 ≤ 63) → ∀ (y2 : Int32) (b2 : Int), y2.toInt = b2 → (0 ≤ b2 ∧ b2 ≤ 6) → (g_tb (σ 85 4).toNat (fun l p => g_bi (σ 86 l) p) (s0 87) b1 b2) → (b1 ≤ g_2p (σ 85 4) - 1) → (b2 ≤ σ 85 4) → ((64 + 1 - b1) - 1) * 1000000 + 1000000000 + (6 + 1 - b2) * 1000 + 100000 ≤ (n : Int) → h_T g_P (g_Y ns) 33 12 [(0, .ref 85), (1, .int y1), (2, .int y2)] [] s0 Q) := by
  intro n
  induction n with
  | zero => exact ⟨by intro s0 I0 F0_ y1 b1 hy1 ry1 ex0 ex1 hm; have gh0 := tf_85_4 hI; have gh1 := g_2p_b (n := σ 85 4) (by have t := tf_85_4 hI; omega) (by have t := tf_85_4 hI; omega); exfalso; omega, by intro s0 I0 F0_ y1 b1 hy1 ry1 y2 b2 hy2 ry2 ex0 ex1 ex2 hm; have gh0 := tf_85_4 hI; have gh1 := g_2p_b (n := σ 85 4) (by have t := tf_85_4 hI; omega) (by have t := tf_85_4 hI; omega); exfalso; omega⟩
  | succ n ih =>
    refine ⟨?_, ?_⟩
    · intro s0 I0 F0_ y1 b1 hy1 ry1 ex0 ex1 hm; have gh0 := tf_85_4 hI; have gh1 := g_2p_b (n := σ 85 4) (by have t := tf_85_4 hI; omega) (by have t := tf_85_4 hI; omega)
      refine h_iload_n (pc' := 3) rfl rfl rfl ?_
      refine h_aload_n (pc' := 4) rfl rfl rfl ?_
      refine h_call (sp := false) (pc' := 7) (M := [(0, .ref 85)]) rfl rfl rfl rfl rfl rfl rfl rfl ?_
      refine h_iconst (pc' := 1) (x := (Int32.ofInt 1)) rfl rfl rfl ?_
      refine h_aload_n (pc' := 2) rfl rfl rfl ?_
      refine h_getI (pc' := 5) (v := σ 85 4) rfl rfl rfl rfl rfl (F0_ 85 4 rfl) (fun z1 hz1 => ?_)
      have tz1 := tf_85_4 hI
      refine h_shl1 (pc' := 6) rfl rfl ci_1 hz1 (by omega) (by omega) (fun z2 hz2 vz2 => ?_)
      refine h_iconst (pc' := 7) (x := (Int32.ofInt 1)) rfl rfl rfl ?_
      refine h_isub (pc' := 8) rfl rfl rfl ci_1 rfl (by omega) (by omega) (fun z3 hz3 => ?_)
      refine h_iret rfl rfl (h_Kv ?_)
      refine h_cgt (tg := 46) (pc' := 10) rfl rfl rfl hy1 hz3 (fun c4 => ?_) (fun c4 => ?_)
      · refine h_aload_n (pc' := 47) rfl rfl rfl ?_
        refine h_aload_n (pc' := 48) rfl rfl rfl ?_
        refine h_call (sp := false) (pc' := 51) (M := [(0, .ref 85)]) rfl rfl rfl rfl rfl rfl rfl rfl ?_
        refine h_iconst (pc' := 1) (x := (Int32.ofInt 1)) rfl rfl rfl ?_
        refine h_aload_n (pc' := 2) rfl rfl rfl ?_
        refine h_getI (pc' := 5) (v := σ 85 4) rfl rfl rfl rfl rfl (F0_ 85 4 rfl) (fun z5 hz5 => ?_)
        have tz5 := tf_85_4 hI
        refine h_shl1 (pc' := 6) rfl rfl ci_1 hz5 (by omega) (by omega) (fun z6 hz6 vz6 => ?_)
        refine h_iconst (pc' := 7) (x := (Int32.ofInt 1)) rfl rfl rfl ?_
        refine h_isub (pc' := 8) rfl rfl rfl ci_1 rfl (by omega) (by omega) (fun z7 hz7 => ?_)
        refine h_iret rfl rfl (h_Kv ?_)
        refine h_bipush (pc' := 53) (x := (Int32.ofInt 6)) rfl rfl cb_6 ?_
        refine h_call (sp := false) (pc' := 56) (M := [(0, .ref 85), (1, .int z7), (2, .int (Int32.ofInt 6))]) rfl rfl rfl rfl rfl rfl rfl rfl ?_
        refine n_row _ I0 z7 _ hz7 (by omega) (Int32.ofInt 6) _ ci_6 (by omega) (fun p p0 p1 d => by rw [show s0 85 4 = σ 85 4 from F0_ 85 4 rfl] at p1; have gs0 := g_2p_of hz2 hz1; have gs := g_2p_of hz6 hz5; exact g_tb_p (by omega) ex0 (by omega) (by omega) (by omega) p p0 (by omega) d) (fun s9 Is9 Gs9 ps9_0 => h_Kn ?_)
        have Fs9 := (Gs9.mono (B := kf_n_chart) rfl).tr F0_
        have es9_0 : s9 98 13 = s0 98 13 := (Gs9 98 13 rfl).trans rfl
        exact h_vret rfl rfl (kk _ Is9 Fs9 (by have gs0 := g_2p_of hz2 hz1; have gs := g_2p_of hz6 hz5; have gb := g_2p_b (n := σ 85 4) (by omega) (by omega); have gr := ps9_0; rw [show s0 86 = σ 86 from (funext (fun j => F0_ 86 j rfl)), show s0 85 4 = σ 85 4 from F0_ 85 4 rfl] at gr; rw [gr, g_set_p (by omega), g_rw_T (by omega) ex0 (by omega) (by omega) (by omega), show z6.toInt - 1 = g_2p (σ 85 4) - 1 by omega]; exact g_T_e (fun _ _ _ _ _ _ => rfl) 6 _ _ 6 6 (fun q q0 q1 => ⟨g_ev (by omega) (by omega) q0 (by omega), rfl⟩)))
      · refine h_iconst (pc' := 11) (x := (Int32.ofInt 0)) rfl rfl rfl ?_
        refine h_istore_n (pc' := 12) (M := [(2, .int (Int32.ofInt 0)), (0, .ref 85), (1, .int y1)]) rfl rfl rfl rfl ?_
        exact h_wk [(0, .ref 85), (1, .int y1), (2, .int (Int32.ofInt 0))] ⟨rfl, rfl, rfl, trivial⟩ (ih.2 _ I0 F0_ y1 _ hy1 (by omega) (Int32.ofInt 0) _ ci_0 (by omega) ex0 (by have gs := g_2p_of hz2 hz1; have gb := g_2p_b (n := σ 85 4) (by omega) (by omega); omega) (by omega) (by omega))
    · intro s0 I0 F0_ y1 b1 hy1 ry1 y2 b2 hy2 ry2 ex0 ex1 ex2 hm; have gh0 := tf_85_4 hI; have gh1 := g_2p_b (n := σ 85 4) (by have t := tf_85_4 hI; omega) (by have t := tf_85_4 hI; omega)
      refine h_iload_n (pc' := 13) rfl rfl rfl ?_
      refine h_aload_n (pc' := 14) rfl rfl rfl ?_
      refine h_getI (pc' := 17) (v := σ 85 4) rfl rfl rfl rfl rfl (F0_ 85 4 rfl) (fun z1 hz1 => ?_)
      have tz1 := tf_85_4 hI
      refine h_cge (tg := 40) (pc' := 20) rfl rfl rfl hy2 hz1 (fun c2 => ?_) (fun c2 => ?_)
      · refine h_iinc (pc' := 43) (M := fun z3 => [(1, .int z3), (0, .ref 85), (2, .int y2)]) rfl rfl rfl rfl hy1 ci_1 rfl (by omega) (by omega) (fun _ => rfl) (fun z3 hz3 => ?_)
        refine h_goto (pc' := 2) rfl rfl ?_
        exact h_wk [(0, .ref 85), (1, .int z3)] ⟨rfl, rfl, trivial⟩ (ih.1 _ I0 F0_ z3 _ hz3 (by omega) (g_tb_r ex0 rfl (by omega)) (by have gb := g_2p_b (n := σ 85 4) (by omega) (by omega); omega) (by omega))
      · refine h_iload_n (pc' := 21) rfl rfl rfl ?_
        refine h_iload_n (pc' := 22) rfl rfl rfl ?_
        refine h_calls (pc' := 25) (M := [(0, .int y1), (1, .int y2)]) rfl rfl rfl rfl rfl rfl ?_
        refine h_iload_n (pc' := 1) rfl rfl rfl ?_
        refine h_iload_n (pc' := 2) rfl rfl rfl ?_
        refine h_ishr (pc' := 3) rfl rfl (fun z4 hz4 => ?_)
        refine h_iconst (pc' := 4) (x := (Int32.ofInt 1)) rfl rfl rfl ?_
        refine h_iand (pc' := 5) rfl rfl (fun z5 hz5 uz5 vz5 => ?_)
        clear uz5
        rw [ci_1] at vz5
        have yz5 := vz5 (by omega)
        refine h_zeq (tg := 12) (pc' := 8) rfl rfl rfl rfl (fun c6 => ?_) (fun c6 => ?_)
        · refine h_iconst (pc' := 13) (x := (Int32.ofInt 0)) rfl rfl rfl ?_
          refine h_zret rfl rfl ci_0 (by omega) (h_Kv ?_)
          refine h_zne (tg := 34) (pc' := 28) rfl rfl rfl ci_0 (fun c7 => absurd c7 (by omega)) (fun c7 => ?_)
          refine h_aload_n (pc' := 29) rfl rfl rfl ?_
          refine h_iload_n (pc' := 30) rfl rfl rfl ?_
          refine h_iload_n (pc' := 31) rfl rfl rfl ?_
          refine h_call (sp := false) (pc' := 34) (M := [(0, .ref 85), (1, .int y1), (2, .int y2)]) rfl rfl rfl rfl rfl rfl rfl rfl ?_
          refine n_row _ I0 y1 _ hy1 (by omega) y2 _ hy2 (by omega) (fun p p0 p1 d => by rw [show s0 85 4 = σ 85 4 from F0_ 85 4 rfl] at p1; exact g_tb_p (by omega) ex0 (by omega) (by omega) (by omega) p p0 (by omega) d) (fun s9 Is9 Gs9 ps9_0 => h_Kn ?_)
          have Fs9 := (Gs9.mono (B := kf_n_chart) rfl).tr F0_
          have es9_0 : s9 98 13 = s0 98 13 := (Gs9 98 13 rfl).trans rfl
          refine h_iinc (pc' := 37) (M := fun z10 => [(2, .int z10), (0, .ref 85), (1, .int y1)]) rfl rfl rfl rfl hy2 ci_1 rfl (by omega) (by omega) (fun _ => rfl) (fun z10 hz10 => ?_)
          refine h_goto (pc' := 12) rfl rfl ?_
          exact h_wk [(0, .ref 85), (1, .int y1), (2, .int z10)] ⟨rfl, rfl, rfl, trivial⟩ (ih.2 _ Is9 Fs9 y1 _ hy1 (by omega) z10 _ hz10 (by omega) (g_tb_y (by omega) ex0 (by omega) (by omega) (by omega) (by omega) (ps9_0.trans (by rw [show s0 86 = σ 86 from (funext (fun j => F0_ 86 j rfl)), show s0 85 4 = σ 85 4 from F0_ 85 4 rfl])) rfl rfl) ex1 (by omega) (by omega))
        · refine h_iconst (pc' := 9) (x := (Int32.ofInt 1)) rfl rfl rfl ?_
          refine h_goto (pc' := 13) rfl rfl ?_
          refine h_zret rfl rfl ci_1 (by omega) (h_Kv ?_)
          refine h_zne (tg := 34) (pc' := 28) rfl rfl rfl ci_1 (fun c11 => ?_) (fun c11 => absurd c11 (by omega))
          refine h_iinc (pc' := 37) (M := fun z12 => [(2, .int z12), (0, .ref 85), (1, .int y1)]) rfl rfl rfl rfl hy2 ci_1 rfl (by omega) (by omega) (fun _ => rfl) (fun z12 hz12 => ?_)
          refine h_goto (pc' := 12) rfl rfl ?_
          exact h_wk [(0, .ref 85), (1, .int y1), (2, .int z12)] ⟨rfl, rfl, rfl, trivial⟩ (ih.2 _ I0 F0_ y1 _ hy1 (by omega) z12 _ hz12 (by omega) (by have gz := g_hb_of hz5 hz4 hy2; rw [g_hb_bt (by omega) (by omega)] at gz; have gi : g_bi b1 b2 = g_bt y1 b2.toNat := (by unfold g_bi; rw [g_ofi hy1]); exact g_tb_n ex0 rfl (gi.trans (g_if_y gz (by omega)))) ex1 (by omega) (by omega))
set_option maxHeartbeats 100000000 in
set_option maxHeartbeats 100000000 in
theorem n_chart {ns : Nat} (σ : h_S) (hI : h_I σ) {Q : Option Value → h_S → Prop} (kk : ∀ (τ : h_S), h_I τ → h_F (k_in kf_n_chart) τ σ → (τ 87 ((g_2p (σ 85 4) - 1) * 7 + 6) = g_T (σ 85 4).toNat (fun l p => g_bi (σ 86 l) p) 6 (fun _ => true) 6) → Q none τ) : h_T g_P (g_Y ns) 33 0 [(0, .ref 85)] [] σ Q := by
  have F00 : h_F (k_in kf_n_chart) σ σ := h_F.rf
  have ge0 := tf_85_4 hI
  refine h_iconst (pc' := 1) (x := (Int32.ofInt 0)) rfl rfl rfl ?_
  refine h_istore_n (pc' := 2) (M := [(1, .int (Int32.ofInt 0)), (0, .ref 85)]) rfl rfl rfl rfl ?_
  exact h_wk [(0, .ref 85), (1, .int (Int32.ofInt 0))] ⟨rfl, rfl, trivial⟩ ((n_chart_l ns σ hI  kk 1000000000000).1 _ hI F00 (Int32.ofInt 0) _ ci_0 (by omega) g_tb_0 (by have gb := g_2p_b (n := σ 85 4) (by omega) (by omega); omega) (by omega))
