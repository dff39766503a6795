theorem g_loop {ns : Nat} (hns : ns ≤ 320) : ∀ (n : Nat) (s0 : h_S), h_I s0 → (d_tape s0 s0) → (s0 64 4 = s0 98 16) → (c_R true s0) → (g_ti s0) → (g_SH s0) → (s0 90 2 = s0 98 29) → ∀ (y3 : Int32) (b3 : Int), y3.toInt = b3 → (0 ≤ b3 ∧ b3 ≤ 320) → 321 - b3 ≤ (n : Int) → h_T g_P (g_Y ns) 225 18 [(0, .ref 0), (1, .ref 9), (2, .ref 98), (3, .int y3)] [] s0 (fun r _ => r = some (.int 1)) := by
  have hnn : (Int32.ofNat ns).toInt = (ns : Int) := nI_toInt (by omega)
  intro n
  induction n with
  | zero => intro s0 I0 j0 j1 j2 j3 j4 j5 y3 b3 hy3 hr hm; exfalso; omega
  | succ n ih =>
    intro s0 I0 j0 j1 j2 j3 j4 j5 y3 b3 hy3 hr hm
    have nx : ∀ τ, h_I τ → (d_tape τ τ) → (τ 64 4 = τ 98 16) → (c_R true τ) → (g_ti τ) → (g_SH τ) → (τ 90 2 = τ 98 29) → b3 + 5 ≤ 320 → h_T g_P (g_Y ns) 225 1441 [(0, .ref 0), (1, .ref 9), (2, .ref 98), (3, .int y3)] [] τ (fun r _ => r = some (.int 1)) := by
      intro τ I1 k0 k1 k2 k3 k4 k5 h5
      refine h_iinc (pc' := 1444) (M := fun z => [(3, .int z), (0, .ref 0), (1, .ref 9), (2, .ref 98)]) rfl rfl rfl rfl hy3 ci_5 rfl (by omega) (by omega) (fun _ => rfl) (fun z hz => ?_)
      refine h_goto (pc' := 18) rfl rfl ?_
      exact h_wk [(0, .ref 0), (1, .ref 9), (2, .ref 98), (3, .int z)] ⟨rfl, rfl, rfl, rfl, trivial⟩ (ih _ I1 k0 k1 k2 k3 k4 k5 z _ hz (by omega) (by omega))
    refine h_iload_n (pc' := 19) rfl rfl rfl ?_
    refine h_aload_n (pc' := 20) rfl rfl rfl ?_
    refine h_alen (pc' := 21) (n := (ns : Int)) rfl rfl rfl hnn (fun z1 hz1 => ?_)
    refine h_iconst (pc' := 22) (x := (Int32.ofInt 5)) rfl rfl rfl ?_
    refine h_isub (pc' := 23) rfl rfl hz1 ci_5 rfl (by omega) (by omega) (fun z2 hz2 => ?_)
    clear hz1
    refine h_cgt (tg := 1447) (pc' := 26) rfl rfl rfl hy3 hz2 (fun c3 => ?_) (fun c3 => ?_)
    · clear hz2
      refine h_iconst (pc' := 1448) (x := (Int32.ofInt 1)) rfl rfl rfl ?_
      exact h_zret rfl rfl ci_1 (by omega) rfl
    · clear hz2
      refine h_aload_n (pc' := 27) rfl rfl rfl ?_
      refine h_iload_n (pc' := 28) rfl rfl rfl ?_
      refine h_iald (pc' := 29) (v := s0 0 b3) rfl rfl rfl hy3 (by omega) (by omega) rfl (fun z4 hz4 => ?_)
      have tz4 := h_rgv hz4
      refine h_bipush (pc' := 31) (x := (Int32.ofInt 63)) rfl rfl cb_63 ?_
      refine h_iand (pc' := 32) rfl rfl (fun z5 hz5 uz5 vz5 => ?_)
      clear uz5
      rw [ci_63] at vz5
      have yz5 := vz5 (by omega)
      clear hz4
      refine h_tsw (dt := 1441) (ts := [212, 235, 258, 271, 284, 307, 340, 373, 406, 429, 462, 495, 538, 571, 604, 637, 680, 703, 726, 759, 782, 805, 838, 881, 914, 927, 950, 983, 1026, 1075, 1098, 1121, 1144, 1177, 1220, 1243, 1266, 1309, 1352, 1405, 1418]) rfl rfl rfl rfl rfl (fun c6 => ?_) ⟨fun c6 => ?_, fun c6 => ?_, fun c6 => ?_, fun c6 => ?_, fun c6 => ?_, fun c6 => ?_, fun c6 => ?_, fun c6 => ?_, fun c6 => ?_, fun c6 => ?_, fun c6 => ?_, fun c6 => ?_, fun c6 => ?_, fun c6 => ?_, fun c6 => ?_, fun c6 => ?_, fun c6 => ?_, fun c6 => ?_, fun c6 => ?_, fun c6 => ?_, fun c6 => ?_, fun c6 => ?_, fun c6 => ?_, fun c6 => ?_, fun c6 => ?_, fun c6 => ?_, fun c6 => ?_, fun c6 => ?_, fun c6 => ?_, fun c6 => ?_, fun c6 => ?_, fun c6 => ?_, fun c6 => ?_, fun c6 => ?_, fun c6 => ?_, fun c6 => ?_, fun c6 => ?_, fun c6 => ?_, fun c6 => ?_, fun c6 => ?_, fun c6 => ?_, trivial⟩
      · exact nx _ I0 j0 j1 j2 j3 j4 j5 (by omega)
      · exact g_case_212 hns _ I0 j0 j1 j2 j3 j4 j5 y3 b3 hy3 (by omega) (fun τ I1 k0 k1 k2 k3 k4 k5 => nx τ I1 k0 k1 k2 k3 k4 k5 (by omega))
      · exact g_case_235 hns _ I0 j0 j1 j2 j3 j4 j5 y3 b3 hy3 (by omega) (fun τ I1 k0 k1 k2 k3 k4 k5 => nx τ I1 k0 k1 k2 k3 k4 k5 (by omega))
      · exact g_case_258 hns _ I0 j0 j1 j2 j3 j4 j5 y3 b3 hy3 (by omega) (fun τ I1 k0 k1 k2 k3 k4 k5 => nx τ I1 k0 k1 k2 k3 k4 k5 (by omega))
      · exact g_case_271 hns _ I0 j0 j1 j2 j3 j4 j5 y3 b3 hy3 (by omega) (fun τ I1 k0 k1 k2 k3 k4 k5 => nx τ I1 k0 k1 k2 k3 k4 k5 (by omega))
      · exact g_case_284 hns _ I0 j0 j1 j2 j3 j4 j5 y3 b3 hy3 (by omega) (fun τ I1 k0 k1 k2 k3 k4 k5 => nx τ I1 k0 k1 k2 k3 k4 k5 (by omega))
      · exact g_case_307 hns _ I0 j0 j1 j2 j3 j4 j5 y3 b3 hy3 (by omega) (fun τ I1 k0 k1 k2 k3 k4 k5 => nx τ I1 k0 k1 k2 k3 k4 k5 (by omega))
      · exact g_case_340 hns _ I0 j0 j1 j2 j3 j4 j5 y3 b3 hy3 (by omega) (fun τ I1 k0 k1 k2 k3 k4 k5 => nx τ I1 k0 k1 k2 k3 k4 k5 (by omega))
      · exact g_case_373 hns _ I0 j0 j1 j2 j3 j4 j5 y3 b3 hy3 (by omega) (fun τ I1 k0 k1 k2 k3 k4 k5 => nx τ I1 k0 k1 k2 k3 k4 k5 (by omega))
      · exact g_case_406 hns _ I0 j0 j1 j2 j3 j4 j5 y3 b3 hy3 (by omega) (fun τ I1 k0 k1 k2 k3 k4 k5 => nx τ I1 k0 k1 k2 k3 k4 k5 (by omega))
      · exact g_case_429 hns _ I0 j0 j1 j2 j3 j4 j5 y3 b3 hy3 (by omega) (fun τ I1 k0 k1 k2 k3 k4 k5 => nx τ I1 k0 k1 k2 k3 k4 k5 (by omega))
      · exact g_case_462 hns _ I0 j0 j1 j2 j3 j4 j5 y3 b3 hy3 (by omega) (fun τ I1 k0 k1 k2 k3 k4 k5 => nx τ I1 k0 k1 k2 k3 k4 k5 (by omega))
      · exact g_case_495 hns _ I0 j0 j1 j2 j3 j4 j5 y3 b3 hy3 (by omega) (fun τ I1 k0 k1 k2 k3 k4 k5 => nx τ I1 k0 k1 k2 k3 k4 k5 (by omega))
      · exact g_case_538 hns _ I0 j0 j1 j2 j3 j4 j5 y3 b3 hy3 (by omega) (fun τ I1 k0 k1 k2 k3 k4 k5 => nx τ I1 k0 k1 k2 k3 k4 k5 (by omega))
      · exact g_case_571 hns _ I0 j0 j1 j2 j3 j4 j5 y3 b3 hy3 (by omega) (fun τ I1 k0 k1 k2 k3 k4 k5 => nx τ I1 k0 k1 k2 k3 k4 k5 (by omega))
      · exact g_case_604 hns _ I0 j0 j1 j2 j3 j4 j5 y3 b3 hy3 (by omega) (fun τ I1 k0 k1 k2 k3 k4 k5 => nx τ I1 k0 k1 k2 k3 k4 k5 (by omega))
      · exact g_case_637 hns _ I0 j0 j1 j2 j3 j4 j5 y3 b3 hy3 (by omega) (fun τ I1 k0 k1 k2 k3 k4 k5 => nx τ I1 k0 k1 k2 k3 k4 k5 (by omega))
      · exact g_case_680 hns _ I0 j0 j1 j2 j3 j4 j5 y3 b3 hy3 (by omega) (fun τ I1 k0 k1 k2 k3 k4 k5 => nx τ I1 k0 k1 k2 k3 k4 k5 (by omega))
      · exact g_case_703 hns _ I0 j0 j1 j2 j3 j4 j5 y3 b3 hy3 (by omega) (fun τ I1 k0 k1 k2 k3 k4 k5 => nx τ I1 k0 k1 k2 k3 k4 k5 (by omega))
      · exact g_case_726 hns _ I0 j0 j1 j2 j3 j4 j5 y3 b3 hy3 (by omega) (fun τ I1 k0 k1 k2 k3 k4 k5 => nx τ I1 k0 k1 k2 k3 k4 k5 (by omega))
      · exact g_case_759 hns _ I0 j0 j1 j2 j3 j4 j5 y3 b3 hy3 (by omega) (fun τ I1 k0 k1 k2 k3 k4 k5 => nx τ I1 k0 k1 k2 k3 k4 k5 (by omega))
      · exact g_case_782 hns _ I0 j0 j1 j2 j3 j4 j5 y3 b3 hy3 (by omega) (fun τ I1 k0 k1 k2 k3 k4 k5 => nx τ I1 k0 k1 k2 k3 k4 k5 (by omega))
      · exact g_case_805 hns _ I0 j0 j1 j2 j3 j4 j5 y3 b3 hy3 (by omega) (fun τ I1 k0 k1 k2 k3 k4 k5 => nx τ I1 k0 k1 k2 k3 k4 k5 (by omega))
      · exact g_case_838 hns _ I0 j0 j1 j2 j3 j4 j5 y3 b3 hy3 (by omega) (fun τ I1 k0 k1 k2 k3 k4 k5 => nx τ I1 k0 k1 k2 k3 k4 k5 (by omega))
      · exact g_case_881 hns _ I0 j0 j1 j2 j3 j4 j5 y3 b3 hy3 (by omega) (fun τ I1 k0 k1 k2 k3 k4 k5 => nx τ I1 k0 k1 k2 k3 k4 k5 (by omega))
      · exact g_case_914 hns _ I0 j0 j1 j2 j3 j4 j5 y3 b3 hy3 (by omega) (fun τ I1 k0 k1 k2 k3 k4 k5 => nx τ I1 k0 k1 k2 k3 k4 k5 (by omega))
      · exact g_case_927 hns _ I0 j0 j1 j2 j3 j4 j5 y3 b3 hy3 (by omega) (fun τ I1 k0 k1 k2 k3 k4 k5 => nx τ I1 k0 k1 k2 k3 k4 k5 (by omega))
      · exact g_case_950 hns _ I0 j0 j1 j2 j3 j4 j5 y3 b3 hy3 (by omega) (fun τ I1 k0 k1 k2 k3 k4 k5 => nx τ I1 k0 k1 k2 k3 k4 k5 (by omega))
      · exact g_case_983 hns _ I0 j0 j1 j2 j3 j4 j5 y3 b3 hy3 (by omega) (fun τ I1 k0 k1 k2 k3 k4 k5 => nx τ I1 k0 k1 k2 k3 k4 k5 (by omega))
      · exact g_case_1026 hns _ I0 j0 j1 j2 j3 j4 j5 y3 b3 hy3 (by omega) (fun τ I1 k0 k1 k2 k3 k4 k5 => nx τ I1 k0 k1 k2 k3 k4 k5 (by omega))
      · exact g_case_1075 hns _ I0 j0 j1 j2 j3 j4 j5 y3 b3 hy3 (by omega) (fun τ I1 k0 k1 k2 k3 k4 k5 => nx τ I1 k0 k1 k2 k3 k4 k5 (by omega))
      · exact g_case_1098 hns _ I0 j0 j1 j2 j3 j4 j5 y3 b3 hy3 (by omega) (fun τ I1 k0 k1 k2 k3 k4 k5 => nx τ I1 k0 k1 k2 k3 k4 k5 (by omega))
      · exact g_case_1121 hns _ I0 j0 j1 j2 j3 j4 j5 y3 b3 hy3 (by omega) (fun τ I1 k0 k1 k2 k3 k4 k5 => nx τ I1 k0 k1 k2 k3 k4 k5 (by omega))
      · exact g_case_1144 hns _ I0 j0 j1 j2 j3 j4 j5 y3 b3 hy3 (by omega) (fun τ I1 k0 k1 k2 k3 k4 k5 => nx τ I1 k0 k1 k2 k3 k4 k5 (by omega))
      · exact g_case_1177 hns _ I0 j0 j1 j2 j3 j4 j5 y3 b3 hy3 (by omega) (fun τ I1 k0 k1 k2 k3 k4 k5 => nx τ I1 k0 k1 k2 k3 k4 k5 (by omega))
      · exact g_case_1220 hns _ I0 j0 j1 j2 j3 j4 j5 y3 b3 hy3 (by omega) (fun τ I1 k0 k1 k2 k3 k4 k5 => nx τ I1 k0 k1 k2 k3 k4 k5 (by omega))
      · exact g_case_1243 hns _ I0 j0 j1 j2 j3 j4 j5 y3 b3 hy3 (by omega) (fun τ I1 k0 k1 k2 k3 k4 k5 => nx τ I1 k0 k1 k2 k3 k4 k5 (by omega))
      · exact g_case_1266 hns _ I0 j0 j1 j2 j3 j4 j5 y3 b3 hy3 (by omega) (fun τ I1 k0 k1 k2 k3 k4 k5 => nx τ I1 k0 k1 k2 k3 k4 k5 (by omega))
      · exact g_case_1309 hns _ I0 j0 j1 j2 j3 j4 j5 y3 b3 hy3 (by omega) (fun τ I1 k0 k1 k2 k3 k4 k5 => nx τ I1 k0 k1 k2 k3 k4 k5 (by omega))
      · exact g_case_1352 hns _ I0 j0 j1 j2 j3 j4 j5 y3 b3 hy3 (by omega) (fun τ I1 k0 k1 k2 k3 k4 k5 => nx τ I1 k0 k1 k2 k3 k4 k5 (by omega))
      · exact g_case_1405 hns _ I0 j0 j1 j2 j3 j4 j5 y3 b3 hy3 (by omega) (fun τ I1 k0 k1 k2 k3 k4 k5 => nx τ I1 k0 k1 k2 k3 k4 k5 (by omega))
      · exact g_case_1418 hns _ I0 j0 j1 j2 j3 j4 j5 y3 b3 hy3 (by omega) (fun τ I1 k0 k1 k2 k3 k4 k5 => nx τ I1 k0 k1 k2 k3 k4 k5 (by omega))
theorem x_lv_ok : h_loc [(0, .ref 0), (1, .ref 9), (2, .ref 98), (3, .int 0)] x_lv := by
  intro p hp
  simp only [List.mem_cons, List.not_mem_nil, or_false] at hp
  rcases hp with rfl | rfl | rfl | rfl <;> rfl
theorem x_j0 (l : List Int32) : d_tape (f_σ l) (f_σ l) := d_tape.z (by rw [f_at (q := 64) (j := 1) rfl]; decide) (by rw [f_at (q := 98) (j := 11) rfl]; decide)
theorem x_j1 (l : List Int32) : f_σ l 64 4 = f_σ l 98 16 := by
  rw [f_at (q := 64) (j := 4) rfl, f_at (q := 98) (j := 16) rfl]
  decide
theorem x_j2 (l : List Int32) : c_R true (f_σ l) := c_R.zero (by rw [f_at (q := 10) (j := 8) rfl]; decide) (by rw [f_at (q := 10) (j := 9) rfl]; decide) (by rw [f_at (q := 10) (j := 10) rfl]; decide) (by rw [f_at (q := 13) (j := 2) rfl]; decide) (by rw [f_at (q := 16) (j := 2) rfl]; decide) (by rw [f_at (q := 98) (j := 1) rfl]; decide) (by rw [f_at (q := 98) (j := 2) rfl]; decide) (by rw [f_at (q := 99) (j := 43) rfl]; decide) (by rw [f_at (q := 99) (j := 18) rfl]; decide) (by rw [f_at (q := 99) (j := 25) rfl]; decide) (by rw [f_at (q := 62) (j := 0) rfl]; decide) (by rw [f_at (q := 62) (j := 1) rfl]; decide) (by rw [f_at (q := 110) (j := 0) rfl]; decide) (by rw [f_at (q := 110) (j := 1) rfl]; decide)
theorem x_j3 (l : List Int32) : g_ti (f_σ l) := g_ti.mk (by rw [f_at (q := 100) (j := 0) rfl]; decide) (by rw [f_at (q := 100) (j := 1) rfl]; decide) (by rw [f_at (q := 100) (j := 2) rfl]; decide) (by rw [f_at (q := 100) (j := 3) rfl]; decide)
theorem x_j4 (l : List Int32) : g_SH (f_σ l) := g_SH.mk (by rw [f_at (q := 96) (j := 0) rfl]; decide) (by rw [f_at (q := 111) (j := 0) rfl]; decide) (by rw [f_at (q := 96) (j := 1) rfl]; decide) (by rw [f_at (q := 111) (j := 1) rfl]; decide) (by rw [f_at (q := 96) (j := 2) rfl]; decide) (by rw [f_at (q := 111) (j := 2) rfl]; decide) (by rw [f_at (q := 96) (j := 3) rfl]; decide) (by rw [f_at (q := 111) (j := 3) rfl]; decide)
theorem x_j5 (l : List Int32) : f_σ l 90 2 = f_σ l 98 29 := by
  rw [f_at (q := 90) (j := 2) rfl, f_at (q := 98) (j := 29) rfl]
  decide
set_option maxRecDepth 1000000 in
theorem g_law_run (l : List Int32) (hl : l.length ≤ 320) : ∃ (n : Nat) (mem' : List e_C), e_run g_P n g_law 0 [(0, .ref 0)] [] (.inl (false, l) :: x_t8) = some (some (.int 1), mem') ∧ mem'.length = 114 ∧ e_sl mem' = 2414 + l.length := by
  obtain ⟨y, τ, h1, h2, h3⟩ := g_loop hl 400 (f_σ l) (f_I0 l) (x_j0 l) (x_j1 l) (x_j2 l) (x_j3 l) (x_j4 l) (x_j5 l) 0 0 rfl (by omega) (by omega) x_lv (.inl (false, l) :: x_full) x_lv_ok (f_R0 l)
  obtain ⟨n, hn⟩ := f_law _ h1
  obtain ⟨r, mem'⟩ := y
  have h3 : r = some (.int 1) := h3
  subst h3
  exact ⟨n, mem', hn, h2.1, h2.2.1⟩
