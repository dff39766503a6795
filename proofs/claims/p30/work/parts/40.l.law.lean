def kf_v_undo : List Nat := [101898, 101899, 101900, 101901]
theorem v_undo {ns : Nat} (σ : h_S) (hI : h_I σ) (x0 : Int32) (a0 : Int) (hx0 : x0.toInt = a0) (x1 : Int32) (a1 : Int) (hx1 : x1.toInt = a1) {Q : Option Value → h_S → Prop} (kk : ∀ (r : Int32) (b : Int) (hb : r.toInt = b) (τ : h_S), h_I τ → h_F (k_in kf_v_undo) τ σ → Q (some (.int r)) τ) : h_T g_P (g_Y ns) 183 0 [(0, .ref 98), (1, .int x0), (2, .int x1)] [] σ Q := by
  have hg := h_rgv hx0
  rcases (show a0 < 0 ∨ a0 = 0 ∨ a0 = 1 ∨ 2 ≤ a0 by omega) with h | h | h | h
  · exact w_undo_n σ hI x0 a0 hx0 (by omega) x1 a1 hx1 (fun r b hb τ I G _ => kk r b hb τ I (G.mono rfl))
  · subst h
    have q := h_lit hx0 ci_0
    subst q
    exact w_183_98_e0 σ hI x1 a1 hx1 (fun r b hb τ I G _ => kk r b hb τ I (G.mono rfl))
  · subst h
    have q := h_lit hx0 ci_1
    subst q
    exact w_183_98_e1 σ hI x1 a1 hx1 (fun r b hb τ I G _ => kk r b hb τ I (G.mono rfl))
  · exact w_undo_p σ hI x0 a0 hx0 (by omega) x1 a1 hx1 (fun r b hb τ I G _ => kk r b hb τ I (G.mono rfl))
/-! THE LAW -/
set_option maxHeartbeats 100000000 in
theorem g_case_212 {ns : Nat} (hns : ns ≤ 320) (s0 : h_S) (I0 : h_I s0) (j0 : d_tape s0 s0) (j1 : s0 64 4 = s0 98 16) (j2 : s0 90 2 = s0 98 29) (y3 : Int32) (b3 : Int) (hy3 : y3.toInt = b3) (hr : 0 ≤ b3 ∧ b3 + 5 ≤ ns) {Q : Option Value → h_S → Prop} (kk : ∀ τ, h_I τ → (d_tape τ τ) → (τ 64 4 = τ 98 16) → (τ 90 2 = τ 98 29) → h_T g_P (g_Y ns) 225 1441 [(0, .ref 0), (1, .ref 9), (2, .ref 98), (3, .int y3)] [] τ Q) : h_T g_P (g_Y ns) 225 212 [(0, .ref 0), (1, .ref 9), (2, .ref 98), (3, .int y3)] [] s0 Q := by
  have F0_ : h_F (fun _ _ => true) s0 s0 := h_F.rf
  have j0_ := j0.2
  have i0 := tf_64_1 I0
  have i1 := tf_98_11 I0
  have i2 := tf_64_4 I0
  have i3 := tf_98_16 I0
  have i4 := tf_90_2 I0
  have i5 := tf_98_29 I0
  have i6 := tf_63_2 I0
  refine h_aload_n (pc' := 213) rfl rfl rfl ?_
  refine h_aload_n (pc' := 214) rfl rfl rfl ?_
  refine h_iload_n (pc' := 215) rfl rfl rfl ?_
  refine h_iconst (pc' := 216) (x := (Int32.ofInt 1)) rfl rfl rfl ?_
  refine h_iadd (pc' := 217) rfl rfl hy3 ci_1 rfl (by omega) (by omega) (fun z1 hz1 => ?_)
  refine h_iald (pc' := 218) (v := s0 0 (b3 + 1)) rfl rfl rfl hz1 (by omega) (by omega) rfl (fun z2 hz2 => ?_)
  have tz2 := h_rgv hz2
  refine h_call (sp := false) (pc' := 221) (M := [(0, .ref 9), (1, .int z2)]) rfl rfl rfl rfl rfl rfl rfl rfl ?_
  refine h_iload_n (pc' := 1) rfl rfl rfl ?_
  refine h_zlt (tg := 10) (pc' := 4) rfl rfl rfl hz2 (fun c3 => ?_) (fun c3 => ?_)
  · refine h_iconst (pc' := 11) (x := (Int32.ofInt (-1))) rfl rfl rfl ?_
    refine h_iret rfl rfl (h_Kv ?_)
    refine h_pop (pc' := 222) rfl rfl rfl ?_
    refine h_aload_n (pc' := 223) rfl rfl rfl ?_
    refine h_aload_n (pc' := 224) rfl rfl rfl ?_
    refine h_iload_n (pc' := 225) rfl rfl rfl ?_
    refine h_iconst (pc' := 226) (x := (Int32.ofInt 1)) rfl rfl rfl ?_
    refine h_iadd (pc' := 227) rfl rfl hy3 ci_1 rfl (by omega) (by omega) (fun z4 hz4 => ?_)
    refine h_iald (pc' := 228) (v := s0 0 (b3 + 1)) rfl rfl rfl hz4 (by omega) (by omega) rfl (fun z5 hz5 => ?_)
    have tz5 := h_rgv hz5
    refine h_call (sp := false) (pc' := 231) (M := [(0, .ref 98), (1, .int z5)]) rfl rfl rfl rfl rfl rfl rfl rfl ?_
    refine h_iload_n (pc' := 1) rfl rfl rfl ?_
    refine h_i2l (pc' := 2) rfl rfl hz5 (fun z6 hz6 => ?_)
    refine h_lconst (pc' := 3) (x := (Int64.ofInt 0)) rfl rfl rfl ?_
    refine h_ldc2 (pc' := 6) (x := (Int64.ofInt 127)) rfl rfl rfl ?_
    refine h_calls (pc' := 9) (M := [(0, .long z6), (2, .long (Int64.ofInt 0)), (4, .long (Int64.ofInt 127))]) rfl rfl rfl rfl rfl rfl ?_
    refine h_lload_n (pc' := 1) rfl rfl rfl ?_
    refine h_lload_n (pc' := 2) rfl rfl rfl ?_
    refine h_lcmp (pc' := 3) rfl rfl hz6 cl_0 (fun z7 hz7 => ?_)
    refine h_zlt (tg := 17) (pc' := 6) rfl rfl rfl rfl (fun c8 => ?_) (fun c8 => absurd c8 (by omega))
    replace c8 := (h_lcr hz7).1 c8
    clear hz7
    refine h_iconst (pc' := 18) (x := (Int32.ofInt 0)) rfl rfl rfl ?_
    refine h_zret rfl rfl ci_0 (by omega) (h_Kv ?_)
    refine h_zne (tg := 14) (pc' := 12) rfl rfl rfl ci_0 (fun c9 => absurd (Int.le_antisymm (by omega) (by omega)) c9) (fun c9 => ?_)
    refine h_iconst (pc' := 13) (x := (Int32.ofInt (-1))) rfl rfl rfl ?_
    refine h_iret rfl rfl (h_Kv ?_)
    refine h_pop (pc' := 232) rfl rfl rfl ?_
    refine h_goto (pc' := 1441) rfl rfl ?_
    exact kk _ I0 (by first | exact d_tape.le j0 (Int.le_antisymm (by omega) (by omega)) (by omega) (fun j => rfl) (fun j => rfl) | (exfalso; omega)) (Int.le_antisymm (by omega) (by omega)) (Int.le_antisymm (by omega) (by omega))
  · refine h_iload_n (pc' := 5) rfl rfl rfl ?_
    refine h_bipush (pc' := 7) (x := (Int32.ofInt 127)) rfl rfl cb_127 ?_
    refine h_cle (tg := 12) (pc' := 10) rfl rfl rfl hz2 ci_127 (fun c10 => ?_) (fun c10 => ?_)
    · refine h_aload_n (pc' := 13) rfl rfl rfl ?_
      refine h_getR (pc' := 16) rfl rfl rfl rfl rfl ?_
      refine h_getR (pc' := 19) rfl rfl rfl rfl rfl ?_
      refine h_iload_n (pc' := 20) rfl rfl rfl ?_
      refine h_call (sp := false) (pc' := 23) (M := [(0, .ref 64), (1, .int z2)]) rfl rfl rfl rfl rfl rfl rfl rfl ?_
      refine h_aload_n (pc' := 1) rfl rfl rfl ?_
      refine h_getI (pc' := 4) (v := s0 64 1) rfl rfl rfl rfl rfl rfl (fun z11 hz11 => ?_)
      have tz11 := tf_64_1 I0
      refine h_sipush (pc' := 7) (x := (Int32.ofInt 160)) rfl rfl cs_160 ?_
      refine h_clt (tg := 12) (pc' := 10) rfl rfl rfl hz11 ci_160 (fun c12 => ?_) (fun c12 => ?_)
      · refine h_aload_n (pc' := 13) rfl rfl rfl ?_
        refine h_getR (pc' := 16) rfl rfl rfl rfl rfl ?_
        refine h_aload_n (pc' := 17) rfl rfl rfl ?_
        refine h_getI (pc' := 20) (v := s0 64 1) rfl rfl rfl rfl rfl rfl (fun z13 hz13 => ?_)
        have tz13 := tf_64_1 I0
        refine h_iload_n (pc' := 21) rfl rfl rfl ?_
        refine h_iast (pc' := 22) rfl rfl rfl rfl hz13 (by omega) (by omega) hz2 (h_fgt (E := fun s => s 64 1 = s0 64 1 ∧ s 98 11 = s0 98 11 ∧ s 64 4 = s0 64 4 ∧ s 98 16 = s0 98 16 ∧ s 90 2 = s0 90 2 ∧ s 98 29 = s0 98 29 ∧ s 63 2 = s0 63 2 ∧ s = h_up s0 65 (s0 64 1) (s0 0 (b3 + 1))) _ (in_65 I0 (by omega)) (F0_.up rfl) ⟨rfl, rfl, rfl, rfl, rfl, rfl, rfl, rfl⟩ (fun s14 Is14 Fs14 (es14 : s14 64 1 = s0 64 1 ∧ s14 98 11 = s0 98 11 ∧ s14 64 4 = s0 64 4 ∧ s14 98 16 = s0 98 16 ∧ s14 90 2 = s0 90 2 ∧ s14 98 29 = s0 98 29 ∧ s14 63 2 = s0 63 2 ∧ s14 = h_up s0 65 (s0 64 1) (s0 0 (b3 + 1))) => ?_))
        have us14 := es14.2.2.2.2.2.2.2
        have Zs14 : ∀ i, s14 0 i = s0 0 i := fun i => (h_upo us14 rfl i).trans rfl
        refine h_aload_n (pc' := 23) rfl rfl rfl ?_
        refine h_dup (pc' := 24) rfl rfl rfl ?_
        refine h_getI (pc' := 27) (v := s0 64 1) rfl rfl rfl rfl rfl es14.1 (fun z15 hz15 => ?_)
        have tz15 := tf_64_1 I0
        refine h_iconst (pc' := 28) (x := (Int32.ofInt 1)) rfl rfl rfl ?_
        refine h_iadd (pc' := 29) rfl rfl hz15 ci_1 rfl (by omega) (by omega) (fun z16 hz16 => ?_)
        refine h_put (pc' := 32) rfl rfl rfl rfl rfl rfl hz16 rfl (h_fgt (E := fun s => s 64 1 = ((s0 64 1) + 1) ∧ s 98 11 = s0 98 11 ∧ s 64 4 = s0 64 4 ∧ s 98 16 = s0 98 16 ∧ s 90 2 = s0 90 2 ∧ s 98 29 = s0 98 29 ∧ s 63 2 = s0 63 2 ∧ s = h_up s14 64 1 ((s0 64 1) + 1)) _ (if_64_1 Is14 (by omega)) (Fs14.up rfl) ⟨rfl, es14.2.1, es14.2.2.1, es14.2.2.2.1, es14.2.2.2.2.1, es14.2.2.2.2.2.1, es14.2.2.2.2.2.2.1, rfl⟩ (fun s17 Is17 Fs17 (es17 : s17 64 1 = ((s0 64 1) + 1) ∧ s17 98 11 = s0 98 11 ∧ s17 64 4 = s0 64 4 ∧ s17 98 16 = s0 98 16 ∧ s17 90 2 = s0 90 2 ∧ s17 98 29 = s0 98 29 ∧ s17 63 2 = s0 63 2 ∧ s17 = h_up s14 64 1 ((s0 64 1) + 1)) => ?_))
        clear es14
        have us17 := es17.2.2.2.2.2.2.2
        have Zs17 : ∀ i, s17 0 i = s0 0 i := fun i => (h_upo us17 rfl i).trans (Zs14 i)
        refine h_iconst (pc' := 33) (x := (Int32.ofInt 1)) rfl rfl rfl ?_
        refine h_zret rfl rfl ci_1 (by omega) (h_Kv ?_)
        refine h_zeq (tg := 39) (pc' := 26) rfl rfl rfl ci_1 (fun c18 => absurd c18 (by omega)) (fun c18 => ?_)
        refine h_aload_n (pc' := 27) rfl rfl rfl ?_
        refine h_getR (pc' := 30) rfl rfl rfl rfl rfl ?_
        refine h_getR (pc' := 33) rfl rfl rfl rfl rfl ?_
        refine h_getI (pc' := 36) (v := ((s0 64 1) + 1)) rfl rfl rfl rfl rfl es17.1 (fun z19 hz19 => ?_)
        refine h_goto (pc' := 41) rfl rfl ?_
        refine h_iret rfl rfl (h_Kv ?_)
        refine h_pop (pc' := 222) rfl rfl rfl ?_
        refine h_aload_n (pc' := 223) rfl rfl rfl ?_
        refine h_aload_n (pc' := 224) rfl rfl rfl ?_
        refine h_iload_n (pc' := 225) rfl rfl rfl ?_
        refine h_iconst (pc' := 226) (x := (Int32.ofInt 1)) rfl rfl rfl ?_
        refine h_iadd (pc' := 227) rfl rfl hy3 ci_1 rfl (by omega) (by omega) (fun z20 hz20 => ?_)
        refine h_iald (pc' := 228) (v := s0 0 (b3 + 1)) rfl rfl rfl hz20 (by omega) (by omega) (Zs17 _) (fun z21 hz21 => ?_)
        have tz21 := h_rgv hz21
        refine h_call (sp := false) (pc' := 231) (M := [(0, .ref 98), (1, .int z21)]) rfl rfl rfl rfl rfl rfl rfl rfl ?_
        refine h_iload_n (pc' := 1) rfl rfl rfl ?_
        refine h_i2l (pc' := 2) rfl rfl hz21 (fun z22 hz22 => ?_)
        refine h_lconst (pc' := 3) (x := (Int64.ofInt 0)) rfl rfl rfl ?_
        refine h_ldc2 (pc' := 6) (x := (Int64.ofInt 127)) rfl rfl rfl ?_
        refine h_calls (pc' := 9) (M := [(0, .long z22), (2, .long (Int64.ofInt 0)), (4, .long (Int64.ofInt 127))]) rfl rfl rfl rfl rfl rfl ?_
        refine h_lload_n (pc' := 1) rfl rfl rfl ?_
        refine h_lload_n (pc' := 2) rfl rfl rfl ?_
        refine h_lcmp (pc' := 3) rfl rfl hz22 cl_0 (fun z23 hz23 => ?_)
        refine h_zlt (tg := 17) (pc' := 6) rfl rfl rfl rfl (fun c24 => absurd c24 (by omega)) (fun c24 => ?_)
        replace c24 := (h_lcr hz23).2.1 c24
        clear hz23
        refine h_lload_n (pc' := 7) rfl rfl rfl ?_
        refine h_lload (pc' := 9) rfl rfl rfl ?_
        refine h_lcmp (pc' := 10) rfl rfl hz22 cl_127 (fun z25 hz25 => ?_)
        refine h_zgt (tg := 17) (pc' := 13) rfl rfl rfl rfl (fun c26 => absurd c26 (by omega)) (fun c26 => ?_)
        replace c26 := (h_lcr hz25).2.2.1 c26
        clear hz25
        refine h_iconst (pc' := 14) (x := (Int32.ofInt 1)) rfl rfl rfl ?_
        refine h_goto (pc' := 18) rfl rfl ?_
        refine h_zret rfl rfl ci_1 (by omega) (h_Kv ?_)
        refine h_zne (tg := 14) (pc' := 12) rfl rfl rfl ci_1 (fun c27 => ?_) (fun c27 => absurd c27 (by omega))
        refine h_aload_n (pc' := 15) rfl rfl rfl ?_
        refine h_getI (pc' := 18) (v := s0 98 11) rfl rfl rfl rfl rfl es17.2.1 (fun z28 hz28 => ?_)
        have tz28 := tf_98_11 I0
        refine h_sipush (pc' := 21) (x := (Int32.ofInt 160)) rfl rfl cs_160 ?_
        refine h_cne (tg := 27) (pc' := 24) rfl rfl rfl hz28 ci_160 (fun c29 => ?_) (fun c29 => absurd c29 (by omega))
        refine h_aload_n (pc' := 28) rfl rfl rfl ?_
        refine h_getR (pc' := 31) rfl rfl rfl rfl rfl ?_
        refine h_aload_n (pc' := 32) rfl rfl rfl ?_
        refine h_getI (pc' := 35) (v := s0 98 11) rfl rfl rfl rfl rfl es17.2.1 (fun z30 hz30 => ?_)
        have tz30 := tf_98_11 I0
        refine h_iload_n (pc' := 36) rfl rfl rfl ?_
        refine h_iast (pc' := 37) rfl rfl rfl rfl hz30 (by omega) (by omega) hz21 (h_fgt (E := fun s => s 64 1 = ((s0 64 1) + 1) ∧ s 98 11 = s0 98 11 ∧ s 64 4 = s0 64 4 ∧ s 98 16 = s0 98 16 ∧ s 90 2 = s0 90 2 ∧ s 98 29 = s0 98 29 ∧ s 63 2 = s0 63 2 ∧ s = h_up s17 102 (s0 98 11) (s0 0 (b3 + 1))) _ (in_102 Is17 (by omega)) (Fs17.up rfl) ⟨es17.1, es17.2.1, es17.2.2.1, es17.2.2.2.1, es17.2.2.2.2.1, es17.2.2.2.2.2.1, es17.2.2.2.2.2.2.1, rfl⟩ (fun s31 Is31 Fs31 (es31 : s31 64 1 = ((s0 64 1) + 1) ∧ s31 98 11 = s0 98 11 ∧ s31 64 4 = s0 64 4 ∧ s31 98 16 = s0 98 16 ∧ s31 90 2 = s0 90 2 ∧ s31 98 29 = s0 98 29 ∧ s31 63 2 = s0 63 2 ∧ s31 = h_up s17 102 (s0 98 11) (s0 0 (b3 + 1))) => ?_))
        clear es17
        have us31 := es31.2.2.2.2.2.2.2
        have Zs31 : ∀ i, s31 0 i = s0 0 i := fun i => (h_upo us31 rfl i).trans (Zs17 i)
        refine h_aload_n (pc' := 38) rfl rfl rfl ?_
        refine h_dup (pc' := 39) rfl rfl rfl ?_
        refine h_getI (pc' := 42) (v := s0 98 11) rfl rfl rfl rfl rfl es31.2.1 (fun z32 hz32 => ?_)
        have tz32 := tf_98_11 I0
        refine h_iconst (pc' := 43) (x := (Int32.ofInt 1)) rfl rfl rfl ?_
        refine h_iadd (pc' := 44) rfl rfl hz32 ci_1 rfl (by omega) (by omega) (fun z33 hz33 => ?_)
        refine h_put (pc' := 47) rfl rfl rfl rfl rfl rfl hz33 rfl (h_fgt (E := fun s => s 64 1 = ((s0 64 1) + 1) ∧ s 98 11 = ((s0 98 11) + 1) ∧ s 64 4 = s0 64 4 ∧ s 98 16 = s0 98 16 ∧ s 90 2 = s0 90 2 ∧ s 98 29 = s0 98 29 ∧ s 63 2 = s0 63 2 ∧ s = h_up s31 98 11 ((s0 98 11) + 1)) _ (if_98_11 Is31 (by omega)) (Fs31.up rfl) ⟨es31.1, rfl, es31.2.2.1, es31.2.2.2.1, es31.2.2.2.2.1, es31.2.2.2.2.2.1, es31.2.2.2.2.2.2.1, rfl⟩ (fun s34 Is34 Fs34 (es34 : s34 64 1 = ((s0 64 1) + 1) ∧ s34 98 11 = ((s0 98 11) + 1) ∧ s34 64 4 = s0 64 4 ∧ s34 98 16 = s0 98 16 ∧ s34 90 2 = s0 90 2 ∧ s34 98 29 = s0 98 29 ∧ s34 63 2 = s0 63 2 ∧ s34 = h_up s31 98 11 ((s0 98 11) + 1)) => ?_))
        clear es31
        have us34 := es34.2.2.2.2.2.2.2
        have Zs34 : ∀ i, s34 0 i = s0 0 i := fun i => (h_upo us34 rfl i).trans (Zs31 i)
        refine h_aload_n (pc' := 48) rfl rfl rfl ?_
        refine h_getI (pc' := 51) (v := ((s0 98 11) + 1)) rfl rfl rfl rfl rfl es34.2.1 (fun z35 hz35 => ?_)
        refine h_iret rfl rfl (h_Kv ?_)
        refine h_pop (pc' := 232) rfl rfl rfl ?_
        refine h_goto (pc' := 1441) rfl rfl ?_
        exact kk _ Is34 (by first | exact d_tape.fd j0 (Int.le_antisymm (by omega) (by omega)) (Int.le_antisymm (by omega) (by omega)) (fun j => (h_upo us34 rfl j).trans ((h_upo us31 rfl j).trans ((h_upo us17 rfl j).trans ((h_upi us14 j))))) (fun j => (h_upo us34 rfl j).trans ((h_upi us31 j).trans (congrArg (fun z => if j = (s0 98 11) then (s0 0 (b3 + 1)) else z) ((h_upo us17 rfl j).trans ((h_upo us14 rfl j)))))) (Int.le_antisymm (by omega) (by omega)) | (exfalso; omega)) (Int.le_antisymm (by omega) (by omega)) (Int.le_antisymm (by omega) (by omega))
      · refine h_iconst (pc' := 11) (x := (Int32.ofInt 0)) rfl rfl rfl ?_
        refine h_zret rfl rfl ci_0 (by omega) (h_Kv ?_)
        refine h_zeq (tg := 39) (pc' := 26) rfl rfl rfl ci_0 (fun c36 => ?_) (fun c36 => absurd (Int.le_antisymm (by omega) (by omega)) c36)
        refine h_bipush (pc' := 41) (x := (Int32.ofInt (-3))) rfl rfl cb_m3 ?_
        refine h_iret rfl rfl (h_Kv ?_)
        refine h_pop (pc' := 222) rfl rfl rfl ?_
        refine h_aload_n (pc' := 223) rfl rfl rfl ?_
        refine h_aload_n (pc' := 224) rfl rfl rfl ?_
        refine h_iload_n (pc' := 225) rfl rfl rfl ?_
        refine h_iconst (pc' := 226) (x := (Int32.ofInt 1)) rfl rfl rfl ?_
        refine h_iadd (pc' := 227) rfl rfl hy3 ci_1 rfl (by omega) (by omega) (fun z37 hz37 => ?_)
        refine h_iald (pc' := 228) (v := s0 0 (b3 + 1)) rfl rfl rfl hz37 (by omega) (by omega) rfl (fun z38 hz38 => ?_)
        have tz38 := h_rgv hz38
        refine h_call (sp := false) (pc' := 231) (M := [(0, .ref 98), (1, .int z38)]) rfl rfl rfl rfl rfl rfl rfl rfl ?_
        refine h_iload_n (pc' := 1) rfl rfl rfl ?_
        refine h_i2l (pc' := 2) rfl rfl hz38 (fun z39 hz39 => ?_)
        refine h_lconst (pc' := 3) (x := (Int64.ofInt 0)) rfl rfl rfl ?_
        refine h_ldc2 (pc' := 6) (x := (Int64.ofInt 127)) rfl rfl rfl ?_
        refine h_calls (pc' := 9) (M := [(0, .long z39), (2, .long (Int64.ofInt 0)), (4, .long (Int64.ofInt 127))]) rfl rfl rfl rfl rfl rfl ?_
        refine h_lload_n (pc' := 1) rfl rfl rfl ?_
        refine h_lload_n (pc' := 2) rfl rfl rfl ?_
        refine h_lcmp (pc' := 3) rfl rfl hz39 cl_0 (fun z40 hz40 => ?_)
        refine h_zlt (tg := 17) (pc' := 6) rfl rfl rfl rfl (fun c41 => absurd c41 (by omega)) (fun c41 => ?_)
        replace c41 := (h_lcr hz40).2.1 c41
        clear hz40
        refine h_lload_n (pc' := 7) rfl rfl rfl ?_
        refine h_lload (pc' := 9) rfl rfl rfl ?_
        refine h_lcmp (pc' := 10) rfl rfl hz39 cl_127 (fun z42 hz42 => ?_)
        refine h_zgt (tg := 17) (pc' := 13) rfl rfl rfl rfl (fun c43 => absurd c43 (by omega)) (fun c43 => ?_)
        replace c43 := (h_lcr hz42).2.2.1 c43
        clear hz42
        refine h_iconst (pc' := 14) (x := (Int32.ofInt 1)) rfl rfl rfl ?_
        refine h_goto (pc' := 18) rfl rfl ?_
        refine h_zret rfl rfl ci_1 (by omega) (h_Kv ?_)
        refine h_zne (tg := 14) (pc' := 12) rfl rfl rfl ci_1 (fun c44 => ?_) (fun c44 => absurd c44 (by omega))
        refine h_aload_n (pc' := 15) rfl rfl rfl ?_
        refine h_getI (pc' := 18) (v := s0 98 11) rfl rfl rfl rfl rfl rfl (fun z45 hz45 => ?_)
        have tz45 := tf_98_11 I0
        refine h_sipush (pc' := 21) (x := (Int32.ofInt 160)) rfl rfl cs_160 ?_
        refine h_cne (tg := 27) (pc' := 24) rfl rfl rfl hz45 ci_160 (fun c46 => absurd (Int.le_antisymm (by omega) (by omega)) c46) (fun c46 => ?_)
        refine h_bipush (pc' := 26) (x := (Int32.ofInt (-3))) rfl rfl cb_m3 ?_
        refine h_iret rfl rfl (h_Kv ?_)
        refine h_pop (pc' := 232) rfl rfl rfl ?_
        refine h_goto (pc' := 1441) rfl rfl ?_
        exact kk _ I0 (by first | exact d_tape.le j0 (Int.le_antisymm (by omega) (by omega)) (by omega) (fun j => rfl) (fun j => rfl) | (exfalso; omega)) (Int.le_antisymm (by omega) (by omega)) (Int.le_antisymm (by omega) (by omega))
    · refine h_iconst (pc' := 11) (x := (Int32.ofInt (-1))) rfl rfl rfl ?_
      refine h_iret rfl rfl (h_Kv ?_)
      refine h_pop (pc' := 222) rfl rfl rfl ?_
      refine h_aload_n (pc' := 223) rfl rfl rfl ?_
      refine h_aload_n (pc' := 224) rfl rfl rfl ?_
      refine h_iload_n (pc' := 225) rfl rfl rfl ?_
      refine h_iconst (pc' := 226) (x := (Int32.ofInt 1)) rfl rfl rfl ?_
      refine h_iadd (pc' := 227) rfl rfl hy3 ci_1 rfl (by omega) (by omega) (fun z47 hz47 => ?_)
      refine h_iald (pc' := 228) (v := s0 0 (b3 + 1)) rfl rfl rfl hz47 (by omega) (by omega) rfl (fun z48 hz48 => ?_)
      have tz48 := h_rgv hz48
      refine h_call (sp := false) (pc' := 231) (M := [(0, .ref 98), (1, .int z48)]) rfl rfl rfl rfl rfl rfl rfl rfl ?_
      refine h_iload_n (pc' := 1) rfl rfl rfl ?_
      refine h_i2l (pc' := 2) rfl rfl hz48 (fun z49 hz49 => ?_)
      refine h_lconst (pc' := 3) (x := (Int64.ofInt 0)) rfl rfl rfl ?_
      refine h_ldc2 (pc' := 6) (x := (Int64.ofInt 127)) rfl rfl rfl ?_
      refine h_calls (pc' := 9) (M := [(0, .long z49), (2, .long (Int64.ofInt 0)), (4, .long (Int64.ofInt 127))]) rfl rfl rfl rfl rfl rfl ?_
      refine h_lload_n (pc' := 1) rfl rfl rfl ?_
      refine h_lload_n (pc' := 2) rfl rfl rfl ?_
      refine h_lcmp (pc' := 3) rfl rfl hz49 cl_0 (fun z50 hz50 => ?_)
      refine h_zlt (tg := 17) (pc' := 6) rfl rfl rfl rfl (fun c51 => absurd c51 (by omega)) (fun c51 => ?_)
      replace c51 := (h_lcr hz50).2.1 c51
      clear hz50
      refine h_lload_n (pc' := 7) rfl rfl rfl ?_
      refine h_lload (pc' := 9) rfl rfl rfl ?_
      refine h_lcmp (pc' := 10) rfl rfl hz49 cl_127 (fun z52 hz52 => ?_)
      refine h_zgt (tg := 17) (pc' := 13) rfl rfl rfl rfl (fun c53 => ?_) (fun c53 => absurd c53 (by omega))
      replace c53 := (h_lcr hz52).2.2.2.1 c53
      clear hz52
      refine h_iconst (pc' := 18) (x := (Int32.ofInt 0)) rfl rfl rfl ?_
      refine h_zret rfl rfl ci_0 (by omega) (h_Kv ?_)
      refine h_zne (tg := 14) (pc' := 12) rfl rfl rfl ci_0 (fun c54 => absurd (Int.le_antisymm (by omega) (by omega)) c54) (fun c54 => ?_)
      refine h_iconst (pc' := 13) (x := (Int32.ofInt (-1))) rfl rfl rfl ?_
      refine h_iret rfl rfl (h_Kv ?_)
      refine h_pop (pc' := 232) rfl rfl rfl ?_
      refine h_goto (pc' := 1441) rfl rfl ?_
      exact kk _ I0 (by first | exact d_tape.le j0 (Int.le_antisymm (by omega) (by omega)) (by omega) (fun j => rfl) (fun j => rfl) | (exfalso; omega)) (Int.le_antisymm (by omega) (by omega)) (Int.le_antisymm (by omega) (by omega))
set_option maxHeartbeats 100000000 in
theorem g_case_235 {ns : Nat} (hns : ns ≤ 320) (s0 : h_S) (I0 : h_I s0) (j0 : d_tape s0 s0) (j1 : s0 64 4 = s0 98 16) (j2 : s0 90 2 = s0 98 29) (y3 : Int32) (b3 : Int) (hy3 : y3.toInt = b3) (hr : 0 ≤ b3 ∧ b3 + 5 ≤ ns) {Q : Option Value → h_S → Prop} (kk : ∀ τ, h_I τ → (d_tape τ τ) → (τ 64 4 = τ 98 16) → (τ 90 2 = τ 98 29) → h_T g_P (g_Y ns) 225 1441 [(0, .ref 0), (1, .ref 9), (2, .ref 98), (3, .int y3)] [] τ Q) : h_T g_P (g_Y ns) 225 235 [(0, .ref 0), (1, .ref 9), (2, .ref 98), (3, .int y3)] [] s0 Q := by
  have F0_ : h_F (fun _ _ => true) s0 s0 := h_F.rf
  have j0_ := j0.2
  have i0 := tf_64_1 I0
  have i1 := tf_98_11 I0
  have i2 := tf_64_4 I0
  have i3 := tf_98_16 I0
  have i4 := tf_90_2 I0
  have i5 := tf_98_29 I0
  have i6 := tf_63_2 I0
  refine h_aload_n (pc' := 236) rfl rfl rfl ?_
  refine h_aload_n (pc' := 237) rfl rfl rfl ?_
  refine h_iload_n (pc' := 238) rfl rfl rfl ?_
  refine h_iconst (pc' := 239) (x := (Int32.ofInt 1)) rfl rfl rfl ?_
  refine h_iadd (pc' := 240) rfl rfl hy3 ci_1 rfl (by omega) (by omega) (fun z1 hz1 => ?_)
  refine h_iald (pc' := 241) (v := s0 0 (b3 + 1)) rfl rfl rfl hz1 (by omega) (by omega) rfl (fun z2 hz2 => ?_)
  have tz2 := h_rgv hz2
  refine h_call (sp := false) (pc' := 244) (M := [(0, .ref 9), (1, .int z2)]) rfl rfl rfl rfl rfl rfl rfl rfl ?_
  refine v_endX _ I0 z2 _ hz2 (fun r3 br3 hr3 s4 Is4 Gs4 tr3 ps4_0 ps4_1 => h_Kv ?_)
  have Zs4 : ∀ i, s4 0 i = s0 0 i := fun i => (Gs4 0 i rfl).trans rfl
  have Fs4 : h_F (fun _ _ => true) s4 s0 := fun _ _ h => by cases h
  have es4_1 : s4 98 11 = s0 98 11 := (Gs4 98 11 rfl).trans rfl
  have es4_2 : s4 64 4 = s0 64 4 := (Gs4 64 4 rfl).trans rfl
  have es4_3 : s4 98 16 = s0 98 16 := (Gs4 98 16 rfl).trans rfl
  have es4_4 : s4 90 2 = s0 90 2 := (Gs4 90 2 rfl).trans rfl
  have es4_5 : s4 98 29 = s0 98 29 := (Gs4 98 29 rfl).trans rfl
  have es4_6 : s4 63 2 = s0 63 2 := (Gs4 63 2 rfl).trans rfl
  refine h_pop (pc' := 245) rfl rfl rfl ?_
  refine h_aload_n (pc' := 246) rfl rfl rfl ?_
  refine h_aload_n (pc' := 247) rfl rfl rfl ?_
  refine h_iload_n (pc' := 248) rfl rfl rfl ?_
  refine h_iconst (pc' := 249) (x := (Int32.ofInt 1)) rfl rfl rfl ?_
  refine h_iadd (pc' := 250) rfl rfl hy3 ci_1 rfl (by omega) (by omega) (fun z5 hz5 => ?_)
  refine h_iald (pc' := 251) (v := s0 0 (b3 + 1)) rfl rfl rfl hz5 (by omega) (by omega) (Zs4 _) (fun z6 hz6 => ?_)
  have tz6 := h_rgv hz6
  refine h_call (sp := false) (pc' := 254) (M := [(0, .ref 98), (1, .int z6)]) rfl rfl rfl rfl rfl rfl rfl rfl ?_
  refine v_endM _ Is4 z6 _ hz6 (fun r7 br7 hr7 s8 Is8 Gs8 tr7 ps8_0 ps8_1 => h_Kv ?_)
  have Zs8 : ∀ i, s8 0 i = s0 0 i := fun i => (Gs8 0 i rfl).trans (Zs4 i)
  have Fs8 : h_F (fun _ _ => true) s8 s0 := fun _ _ h => by cases h
  have es8_0 : s8 64 1 = s4 64 1 := (Gs8 64 1 rfl).trans rfl
  have es8_2 : s8 64 4 = s0 64 4 := (Gs8 64 4 rfl).trans es4_2
  have es8_3 : s8 98 16 = s0 98 16 := (Gs8 98 16 rfl).trans es4_3
  have es8_4 : s8 90 2 = s0 90 2 := (Gs8 90 2 rfl).trans es4_4
  have es8_5 : s8 98 29 = s0 98 29 := (Gs8 98 29 rfl).trans es4_5
  have es8_6 : s8 63 2 = s0 63 2 := (Gs8 63 2 rfl).trans es4_6
  refine h_pop (pc' := 255) rfl rfl rfl ?_
  refine h_goto (pc' := 1441) rfl rfl ?_
  exact kk _ Is8 (by first | exact d_tape.le j0 (Int.le_antisymm (by omega) (by omega)) (by omega) (fun j => (Gs8 65 j rfl).trans ((Gs4 65 j rfl))) (fun j => (Gs8 102 j rfl).trans ((Gs4 102 j rfl))) | (exfalso; omega)) (Int.le_antisymm (by omega) (by omega)) (Int.le_antisymm (by omega) (by omega))
set_option maxHeartbeats 100000000 in
theorem g_case_258 {ns : Nat} (hns : ns ≤ 320) (s0 : h_S) (I0 : h_I s0) (j0 : d_tape s0 s0) (j1 : s0 64 4 = s0 98 16) (j2 : s0 90 2 = s0 98 29) (y3 : Int32) (b3 : Int) (hy3 : y3.toInt = b3) (hr : 0 ≤ b3 ∧ b3 + 5 ≤ ns) {Q : Option Value → h_S → Prop} (kk : ∀ τ, h_I τ → (d_tape τ τ) → (τ 64 4 = τ 98 16) → (τ 90 2 = τ 98 29) → h_T g_P (g_Y ns) 225 1441 [(0, .ref 0), (1, .ref 9), (2, .ref 98), (3, .int y3)] [] τ Q) : h_T g_P (g_Y ns) 225 258 [(0, .ref 0), (1, .ref 9), (2, .ref 98), (3, .int y3)] [] s0 Q := by
  have F0_ : h_F (fun _ _ => true) s0 s0 := h_F.rf
  have j0_ := j0.2
  have i0 := tf_64_1 I0
  have i1 := tf_98_11 I0
  have i2 := tf_64_4 I0
  have i3 := tf_98_16 I0
  have i4 := tf_90_2 I0
  have i5 := tf_98_29 I0
  have i6 := tf_63_2 I0
  refine h_aload_n (pc' := 259) rfl rfl rfl ?_
  refine h_call (sp := false) (pc' := 262) (M := [(0, .ref 9)]) rfl rfl rfl rfl rfl rfl rfl rfl ?_
  refine v_textXM _ I0 j0 (by omega) (fun r1 br1 hr1 s2 Is2 Gs2 ps2_0 => h_Kv ?_)
  have Zs2 : ∀ i, s2 0 i = s0 0 i := fun i => (Gs2 0 i rfl).trans rfl
  have Fs2 : h_F (fun _ _ => true) s2 s0 := fun _ _ h => by cases h
  have es2_1 : s2 98 11 = s0 98 11 := (Gs2 98 11 rfl).trans rfl
  have es2_3 : s2 98 16 = s0 98 16 := (Gs2 98 16 rfl).trans rfl
  have es2_5 : s2 98 29 = s0 98 29 := (Gs2 98 29 rfl).trans rfl
  refine h_pop (pc' := 263) rfl rfl rfl ?_
  refine h_aload_n (pc' := 264) rfl rfl rfl ?_
  refine h_call (sp := false) (pc' := 267) (M := [(0, .ref 98)]) rfl rfl rfl rfl rfl rfl rfl rfl ?_
  refine ps2_0 (fun r3 br3 hr3 s4 Is4 Gs4 ps4_0 ps4_1 ps4_2 ps4_3 ps4_4 ps4_5 => h_Kv ?_)
  have Zs4 : ∀ i, s4 0 i = s0 0 i := fun i => (Gs4 0 i rfl).trans (Zs2 i)
  have Fs4 : h_F (fun _ _ => true) s4 s0 := fun _ _ h => by cases h
  have es4_0 : s4 64 1 = s2 64 1 := (Gs4 64 1 rfl).trans rfl
  have es4_2 : s4 64 4 = s2 64 4 := (Gs4 64 4 rfl).trans rfl
  have es4_4 : s4 90 2 = s2 90 2 := (Gs4 90 2 rfl).trans rfl
  have es4_6 : s4 63 2 = s2 63 2 := (Gs4 63 2 rfl).trans rfl
  refine h_pop (pc' := 268) rfl rfl rfl ?_
  refine h_goto (pc' := 1441) rfl rfl ?_
  exact kk _ Is4 (by first | exact d_tape.le j0 (Int.le_antisymm (by omega) (by omega)) (by omega) (fun j => (Gs4 65 j rfl).trans ((Gs2 65 j rfl))) (fun j => (Gs4 102 j rfl).trans ((Gs2 102 j rfl))) | (exfalso; omega)) (Int.le_antisymm (by omega) (by omega)) (Int.le_antisymm (by omega) (by omega))
set_option maxHeartbeats 100000000 in
theorem g_case_271 {ns : Nat} (hns : ns ≤ 320) (s0 : h_S) (I0 : h_I s0) (j0 : d_tape s0 s0) (j1 : s0 64 4 = s0 98 16) (j2 : s0 90 2 = s0 98 29) (y3 : Int32) (b3 : Int) (hy3 : y3.toInt = b3) (hr : 0 ≤ b3 ∧ b3 + 5 ≤ ns) {Q : Option Value → h_S → Prop} (kk : ∀ τ, h_I τ → (d_tape τ τ) → (τ 64 4 = τ 98 16) → (τ 90 2 = τ 98 29) → h_T g_P (g_Y ns) 225 1441 [(0, .ref 0), (1, .ref 9), (2, .ref 98), (3, .int y3)] [] τ Q) : h_T g_P (g_Y ns) 225 271 [(0, .ref 0), (1, .ref 9), (2, .ref 98), (3, .int y3)] [] s0 Q := by
  have F0_ : h_F (fun _ _ => true) s0 s0 := h_F.rf
  have j0_ := j0.2
  have i0 := tf_64_1 I0
  have i1 := tf_98_11 I0
  have i2 := tf_64_4 I0
  have i3 := tf_98_16 I0
  have i4 := tf_90_2 I0
  have i5 := tf_98_29 I0
  have i6 := tf_63_2 I0
  refine h_aload_n (pc' := 272) rfl rfl rfl ?_
  refine h_call (sp := false) (pc' := 275) (M := [(0, .ref 9)]) rfl rfl rfl rfl rfl rfl rfl rfl ?_
  refine w_85_9 _ I0  (fun r1 br1 hr1 s2 Is2 Gs2 tr1 => h_Kv ?_)
  have Zs2 : ∀ i, s2 0 i = s0 0 i := fun i => (Gs2 0 i rfl).trans rfl
  have Fs2 : h_F (fun _ _ => true) s2 s0 := fun _ _ h => by cases h
  have es2_0 : s2 64 1 = s0 64 1 := (Gs2 64 1 rfl).trans rfl
  have es2_1 : s2 98 11 = s0 98 11 := (Gs2 98 11 rfl).trans rfl
  have es2_2 : s2 64 4 = s0 64 4 := (Gs2 64 4 rfl).trans rfl
  have es2_3 : s2 98 16 = s0 98 16 := (Gs2 98 16 rfl).trans rfl
  have es2_4 : s2 90 2 = s0 90 2 := (Gs2 90 2 rfl).trans rfl
  have es2_5 : s2 98 29 = s0 98 29 := (Gs2 98 29 rfl).trans rfl
  have es2_6 : s2 63 2 = s0 63 2 := (Gs2 63 2 rfl).trans rfl
  refine h_pop (pc' := 276) rfl rfl rfl ?_
  refine h_aload_n (pc' := 277) rfl rfl rfl ?_
  refine h_call (sp := false) (pc' := 280) (M := [(0, .ref 98)]) rfl rfl rfl rfl rfl rfl rfl rfl ?_
  refine w_156_98 _ Is2  (fun r3 br3 hr3 s4 Is4 Gs4 => h_Kv ?_)
  have Zs4 : ∀ i, s4 0 i = s0 0 i := fun i => (Gs4 0 i rfl).trans (Zs2 i)
  have Fs4 : h_F (fun _ _ => true) s4 s0 := fun _ _ h => by cases h
  have es4_0 : s4 64 1 = s0 64 1 := (Gs4 64 1 rfl).trans es2_0
  have es4_1 : s4 98 11 = s0 98 11 := (Gs4 98 11 rfl).trans es2_1
  have es4_2 : s4 64 4 = s0 64 4 := (Gs4 64 4 rfl).trans es2_2
  have es4_3 : s4 98 16 = s0 98 16 := (Gs4 98 16 rfl).trans es2_3
  have es4_4 : s4 90 2 = s0 90 2 := (Gs4 90 2 rfl).trans es2_4
  have es4_5 : s4 98 29 = s0 98 29 := (Gs4 98 29 rfl).trans es2_5
  have es4_6 : s4 63 2 = s0 63 2 := (Gs4 63 2 rfl).trans es2_6
  clear es2_0 es2_1 es2_2 es2_3 es2_4 es2_5 es2_6
  refine h_pop (pc' := 281) rfl rfl rfl ?_
  refine h_goto (pc' := 1441) rfl rfl ?_
  exact kk _ Is4 (by first | exact d_tape.le j0 (Int.le_antisymm (by omega) (by omega)) (by omega) (fun j => (Gs4 65 j rfl).trans ((Gs2 65 j rfl))) (fun j => (Gs4 102 j rfl).trans ((Gs2 102 j rfl))) | (exfalso; omega)) (Int.le_antisymm (by omega) (by omega)) (Int.le_antisymm (by omega) (by omega))
set_option maxHeartbeats 100000000 in
theorem g_case_284 {ns : Nat} (hns : ns ≤ 320) (s0 : h_S) (I0 : h_I s0) (j0 : d_tape s0 s0) (j1 : s0 64 4 = s0 98 16) (j2 : s0 90 2 = s0 98 29) (y3 : Int32) (b3 : Int) (hy3 : y3.toInt = b3) (hr : 0 ≤ b3 ∧ b3 + 5 ≤ ns) {Q : Option Value → h_S → Prop} (kk : ∀ τ, h_I τ → (d_tape τ τ) → (τ 64 4 = τ 98 16) → (τ 90 2 = τ 98 29) → h_T g_P (g_Y ns) 225 1441 [(0, .ref 0), (1, .ref 9), (2, .ref 98), (3, .int y3)] [] τ Q) : h_T g_P (g_Y ns) 225 284 [(0, .ref 0), (1, .ref 9), (2, .ref 98), (3, .int y3)] [] s0 Q := by
  have F0_ : h_F (fun _ _ => true) s0 s0 := h_F.rf
  have j0_ := j0.2
  have i0 := tf_64_1 I0
  have i1 := tf_98_11 I0
  have i2 := tf_64_4 I0
  have i3 := tf_98_16 I0
  have i4 := tf_90_2 I0
  have i5 := tf_98_29 I0
  have i6 := tf_63_2 I0
  refine h_aload_n (pc' := 285) rfl rfl rfl ?_
  refine h_aload_n (pc' := 286) rfl rfl rfl ?_
  refine h_iload_n (pc' := 287) rfl rfl rfl ?_
  refine h_iconst (pc' := 288) (x := (Int32.ofInt 1)) rfl rfl rfl ?_
  refine h_iadd (pc' := 289) rfl rfl hy3 ci_1 rfl (by omega) (by omega) (fun z1 hz1 => ?_)
  refine h_iald (pc' := 290) (v := s0 0 (b3 + 1)) rfl rfl rfl hz1 (by omega) (by omega) rfl (fun z2 hz2 => ?_)
  have tz2 := h_rgv hz2
  refine h_call (sp := false) (pc' := 293) (M := [(0, .ref 9), (1, .int z2)]) rfl rfl rfl rfl rfl rfl rfl rfl ?_
  refine w_86_9 _ I0 z2 _ hz2 (fun r3 br3 hr3 s4 Is4 Gs4 => h_Kv ?_)
  have Zs4 : ∀ i, s4 0 i = s0 0 i := fun i => (Gs4 0 i rfl).trans rfl
  have Fs4 : h_F (fun _ _ => true) s4 s0 := fun _ _ h => by cases h
  have es4_0 : s4 64 1 = s0 64 1 := (Gs4 64 1 rfl).trans rfl
  have es4_1 : s4 98 11 = s0 98 11 := (Gs4 98 11 rfl).trans rfl
  have es4_2 : s4 64 4 = s0 64 4 := (Gs4 64 4 rfl).trans rfl
  have es4_3 : s4 98 16 = s0 98 16 := (Gs4 98 16 rfl).trans rfl
  have es4_4 : s4 90 2 = s0 90 2 := (Gs4 90 2 rfl).trans rfl
  have es4_5 : s4 98 29 = s0 98 29 := (Gs4 98 29 rfl).trans rfl
  have es4_6 : s4 63 2 = s0 63 2 := (Gs4 63 2 rfl).trans rfl
  refine h_pop (pc' := 294) rfl rfl rfl ?_
  refine h_aload_n (pc' := 295) rfl rfl rfl ?_
  refine h_aload_n (pc' := 296) rfl rfl rfl ?_
  refine h_iload_n (pc' := 297) rfl rfl rfl ?_
  refine h_iconst (pc' := 298) (x := (Int32.ofInt 1)) rfl rfl rfl ?_
  refine h_iadd (pc' := 299) rfl rfl hy3 ci_1 rfl (by omega) (by omega) (fun z5 hz5 => ?_)
  refine h_iald (pc' := 300) (v := s0 0 (b3 + 1)) rfl rfl rfl hz5 (by omega) (by omega) (Zs4 _) (fun z6 hz6 => ?_)
  have tz6 := h_rgv hz6
  refine h_call (sp := false) (pc' := 303) (M := [(0, .ref 98), (1, .int z6)]) rfl rfl rfl rfl rfl rfl rfl rfl ?_
  refine w_160_98 _ Is4 z6 _ hz6 (fun r7 br7 hr7 s8 Is8 Gs8 => h_Kv ?_)
  have Zs8 : ∀ i, s8 0 i = s0 0 i := fun i => (Gs8 0 i rfl).trans (Zs4 i)
  have Fs8 : h_F (fun _ _ => true) s8 s0 := fun _ _ h => by cases h
  have es8_0 : s8 64 1 = s0 64 1 := (Gs8 64 1 rfl).trans es4_0
  have es8_1 : s8 98 11 = s0 98 11 := (Gs8 98 11 rfl).trans es4_1
  have es8_2 : s8 64 4 = s0 64 4 := (Gs8 64 4 rfl).trans es4_2
  have es8_3 : s8 98 16 = s0 98 16 := (Gs8 98 16 rfl).trans es4_3
  have es8_4 : s8 90 2 = s0 90 2 := (Gs8 90 2 rfl).trans es4_4
  have es8_5 : s8 98 29 = s0 98 29 := (Gs8 98 29 rfl).trans es4_5
  have es8_6 : s8 63 2 = s0 63 2 := (Gs8 63 2 rfl).trans es4_6
  clear es4_0 es4_1 es4_2 es4_3 es4_4 es4_5 es4_6
  refine h_pop (pc' := 304) rfl rfl rfl ?_
  refine h_goto (pc' := 1441) rfl rfl ?_
  exact kk _ Is8 (by first | exact d_tape.le j0 (Int.le_antisymm (by omega) (by omega)) (by omega) (fun j => (Gs8 65 j rfl).trans ((Gs4 65 j rfl))) (fun j => (Gs8 102 j rfl).trans ((Gs4 102 j rfl))) | (exfalso; omega)) (Int.le_antisymm (by omega) (by omega)) (Int.le_antisymm (by omega) (by omega))
set_option maxHeartbeats 100000000 in
theorem g_case_307 {ns : Nat} (hns : ns ≤ 320) (s0 : h_S) (I0 : h_I s0) (j0 : d_tape s0 s0) (j1 : s0 64 4 = s0 98 16) (j2 : s0 90 2 = s0 98 29) (y3 : Int32) (b3 : Int) (hy3 : y3.toInt = b3) (hr : 0 ≤ b3 ∧ b3 + 5 ≤ ns) {Q : Option Value → h_S → Prop} (kk : ∀ τ, h_I τ → (d_tape τ τ) → (τ 64 4 = τ 98 16) → (τ 90 2 = τ 98 29) → h_T g_P (g_Y ns) 225 1441 [(0, .ref 0), (1, .ref 9), (2, .ref 98), (3, .int y3)] [] τ Q) : h_T g_P (g_Y ns) 225 307 [(0, .ref 0), (1, .ref 9), (2, .ref 98), (3, .int y3)] [] s0 Q := by
  have F0_ : h_F (fun _ _ => true) s0 s0 := h_F.rf
  have j0_ := j0.2
  have i0 := tf_64_1 I0
  have i1 := tf_98_11 I0
  have i2 := tf_64_4 I0
  have i3 := tf_98_16 I0
  have i4 := tf_90_2 I0
  have i5 := tf_98_29 I0
  have i6 := tf_63_2 I0
  refine h_aload_n (pc' := 308) rfl rfl rfl ?_
  refine h_aload_n (pc' := 309) rfl rfl rfl ?_
  refine h_iload_n (pc' := 310) rfl rfl rfl ?_
  refine h_iconst (pc' := 311) (x := (Int32.ofInt 1)) rfl rfl rfl ?_
  refine h_iadd (pc' := 312) rfl rfl hy3 ci_1 rfl (by omega) (by omega) (fun z1 hz1 => ?_)
  refine h_iald (pc' := 313) (v := s0 0 (b3 + 1)) rfl rfl rfl hz1 (by omega) (by omega) rfl (fun z2 hz2 => ?_)
  have tz2 := h_rgv hz2
  refine h_aload_n (pc' := 314) rfl rfl rfl ?_
  refine h_iload_n (pc' := 315) rfl rfl rfl ?_
  refine h_iconst (pc' := 316) (x := (Int32.ofInt 2)) rfl rfl rfl ?_
  refine h_iadd (pc' := 317) rfl rfl hy3 ci_2 rfl (by omega) (by omega) (fun z3 hz3 => ?_)
  refine h_iald (pc' := 318) (v := s0 0 (b3 + 2)) rfl rfl rfl hz3 (by omega) (by omega) rfl (fun z4 hz4 => ?_)
  have tz4 := h_rgv hz4
  refine h_call (sp := false) (pc' := 321) (M := [(0, .ref 9), (1, .int z2), (2, .int z4)]) rfl rfl rfl rfl rfl rfl rfl rfl ?_
  refine w_87_9 _ I0 z2 _ hz2 z4 _ hz4 (fun r5 br5 hr5 s6 Is6 Gs6 => h_Kv ?_)
  have Zs6 : ∀ i, s6 0 i = s0 0 i := fun i => (Gs6 0 i rfl).trans rfl
  have Fs6 : h_F (fun _ _ => true) s6 s0 := fun _ _ h => by cases h
  have es6_0 : s6 64 1 = s0 64 1 := (Gs6 64 1 rfl).trans rfl
  have es6_1 : s6 98 11 = s0 98 11 := (Gs6 98 11 rfl).trans rfl
  have es6_2 : s6 64 4 = s0 64 4 := (Gs6 64 4 rfl).trans rfl
  have es6_3 : s6 98 16 = s0 98 16 := (Gs6 98 16 rfl).trans rfl
  have es6_4 : s6 90 2 = s0 90 2 := (Gs6 90 2 rfl).trans rfl
  have es6_5 : s6 98 29 = s0 98 29 := (Gs6 98 29 rfl).trans rfl
  have es6_6 : s6 63 2 = s0 63 2 := (Gs6 63 2 rfl).trans rfl
  refine h_pop (pc' := 322) rfl rfl rfl ?_
  refine h_aload_n (pc' := 323) rfl rfl rfl ?_
  refine h_aload_n (pc' := 324) rfl rfl rfl ?_
  refine h_iload_n (pc' := 325) rfl rfl rfl ?_
  refine h_iconst (pc' := 326) (x := (Int32.ofInt 1)) rfl rfl rfl ?_
  refine h_iadd (pc' := 327) rfl rfl hy3 ci_1 rfl (by omega) (by omega) (fun z7 hz7 => ?_)
  refine h_iald (pc' := 328) (v := s0 0 (b3 + 1)) rfl rfl rfl hz7 (by omega) (by omega) (Zs6 _) (fun z8 hz8 => ?_)
  have tz8 := h_rgv hz8
  refine h_aload_n (pc' := 329) rfl rfl rfl ?_
  refine h_iload_n (pc' := 330) rfl rfl rfl ?_
  refine h_iconst (pc' := 331) (x := (Int32.ofInt 2)) rfl rfl rfl ?_
  refine h_iadd (pc' := 332) rfl rfl hy3 ci_2 rfl (by omega) (by omega) (fun z9 hz9 => ?_)
  refine h_iald (pc' := 333) (v := s0 0 (b3 + 2)) rfl rfl rfl hz9 (by omega) (by omega) (Zs6 _) (fun z10 hz10 => ?_)
  have tz10 := h_rgv hz10
  refine h_call (sp := false) (pc' := 336) (M := [(0, .ref 98), (1, .int z8), (2, .int z10)]) rfl rfl rfl rfl rfl rfl rfl rfl ?_
  refine w_168_98 _ Is6 z8 _ hz8 z10 _ hz10 (fun r11 br11 hr11 s12 Is12 Gs12 => h_Kv ?_)
  have Zs12 : ∀ i, s12 0 i = s0 0 i := fun i => (Gs12 0 i rfl).trans (Zs6 i)
  have Fs12 : h_F (fun _ _ => true) s12 s0 := fun _ _ h => by cases h
  have es12_0 : s12 64 1 = s0 64 1 := (Gs12 64 1 rfl).trans es6_0
  have es12_1 : s12 98 11 = s0 98 11 := (Gs12 98 11 rfl).trans es6_1
  have es12_2 : s12 64 4 = s0 64 4 := (Gs12 64 4 rfl).trans es6_2
  have es12_3 : s12 98 16 = s0 98 16 := (Gs12 98 16 rfl).trans es6_3
  have es12_4 : s12 90 2 = s0 90 2 := (Gs12 90 2 rfl).trans es6_4
  have es12_5 : s12 98 29 = s0 98 29 := (Gs12 98 29 rfl).trans es6_5
  have es12_6 : s12 63 2 = s0 63 2 := (Gs12 63 2 rfl).trans es6_6
  clear es6_0 es6_1 es6_2 es6_3 es6_4 es6_5 es6_6
  refine h_pop (pc' := 337) rfl rfl rfl ?_
  refine h_goto (pc' := 1441) rfl rfl ?_
  exact kk _ Is12 (by first | exact d_tape.le j0 (Int.le_antisymm (by omega) (by omega)) (by omega) (fun j => (Gs12 65 j rfl).trans ((Gs6 65 j rfl))) (fun j => (Gs12 102 j rfl).trans ((Gs6 102 j rfl))) | (exfalso; omega)) (Int.le_antisymm (by omega) (by omega)) (Int.le_antisymm (by omega) (by omega))
set_option maxHeartbeats 100000000 in
theorem g_case_340 {ns : Nat} (hns : ns ≤ 320) (s0 : h_S) (I0 : h_I s0) (j0 : d_tape s0 s0) (j1 : s0 64 4 = s0 98 16) (j2 : s0 90 2 = s0 98 29) (y3 : Int32) (b3 : Int) (hy3 : y3.toInt = b3) (hr : 0 ≤ b3 ∧ b3 + 5 ≤ ns) {Q : Option Value → h_S → Prop} (kk : ∀ τ, h_I τ → (d_tape τ τ) → (τ 64 4 = τ 98 16) → (τ 90 2 = τ 98 29) → h_T g_P (g_Y ns) 225 1441 [(0, .ref 0), (1, .ref 9), (2, .ref 98), (3, .int y3)] [] τ Q) : h_T g_P (g_Y ns) 225 340 [(0, .ref 0), (1, .ref 9), (2, .ref 98), (3, .int y3)] [] s0 Q := by
  have F0_ : h_F (fun _ _ => true) s0 s0 := h_F.rf
  have j0_ := j0.2
  have i0 := tf_64_1 I0
  have i1 := tf_98_11 I0
  have i2 := tf_64_4 I0
  have i3 := tf_98_16 I0
  have i4 := tf_90_2 I0
  have i5 := tf_98_29 I0
  have i6 := tf_63_2 I0
  refine h_aload_n (pc' := 341) rfl rfl rfl ?_
  refine h_aload_n (pc' := 342) rfl rfl rfl ?_
  refine h_iload_n (pc' := 343) rfl rfl rfl ?_
  refine h_iconst (pc' := 344) (x := (Int32.ofInt 1)) rfl rfl rfl ?_
  refine h_iadd (pc' := 345) rfl rfl hy3 ci_1 rfl (by omega) (by omega) (fun z1 hz1 => ?_)
  refine h_iald (pc' := 346) (v := s0 0 (b3 + 1)) rfl rfl rfl hz1 (by omega) (by omega) rfl (fun z2 hz2 => ?_)
  have tz2 := h_rgv hz2
  refine h_aload_n (pc' := 347) rfl rfl rfl ?_
  refine h_iload_n (pc' := 348) rfl rfl rfl ?_
  refine h_iconst (pc' := 349) (x := (Int32.ofInt 2)) rfl rfl rfl ?_
  refine h_iadd (pc' := 350) rfl rfl hy3 ci_2 rfl (by omega) (by omega) (fun z3 hz3 => ?_)
  refine h_iald (pc' := 351) (v := s0 0 (b3 + 2)) rfl rfl rfl hz3 (by omega) (by omega) rfl (fun z4 hz4 => ?_)
  have tz4 := h_rgv hz4
  refine h_call (sp := false) (pc' := 354) (M := [(0, .ref 9), (1, .int z2), (2, .int z4)]) rfl rfl rfl rfl rfl rfl rfl rfl ?_
  refine w_88_9 _ I0 z2 _ hz2 z4 _ hz4 (fun r5 br5 hr5 s6 Is6 Gs6 => h_Kv ?_)
  have Zs6 : ∀ i, s6 0 i = s0 0 i := fun i => (Gs6 0 i rfl).trans rfl
  have Fs6 : h_F (fun _ _ => true) s6 s0 := fun _ _ h => by cases h
  have es6_0 : s6 64 1 = s0 64 1 := (Gs6 64 1 rfl).trans rfl
  have es6_1 : s6 98 11 = s0 98 11 := (Gs6 98 11 rfl).trans rfl
  have es6_2 : s6 64 4 = s0 64 4 := (Gs6 64 4 rfl).trans rfl
  have es6_3 : s6 98 16 = s0 98 16 := (Gs6 98 16 rfl).trans rfl
  have es6_4 : s6 90 2 = s0 90 2 := (Gs6 90 2 rfl).trans rfl
  have es6_5 : s6 98 29 = s0 98 29 := (Gs6 98 29 rfl).trans rfl
  have es6_6 : s6 63 2 = s0 63 2 := (Gs6 63 2 rfl).trans rfl
  refine h_pop (pc' := 355) rfl rfl rfl ?_
  refine h_aload_n (pc' := 356) rfl rfl rfl ?_
  refine h_aload_n (pc' := 357) rfl rfl rfl ?_
  refine h_iload_n (pc' := 358) rfl rfl rfl ?_
  refine h_iconst (pc' := 359) (x := (Int32.ofInt 1)) rfl rfl rfl ?_
  refine h_iadd (pc' := 360) rfl rfl hy3 ci_1 rfl (by omega) (by omega) (fun z7 hz7 => ?_)
  refine h_iald (pc' := 361) (v := s0 0 (b3 + 1)) rfl rfl rfl hz7 (by omega) (by omega) (Zs6 _) (fun z8 hz8 => ?_)
  have tz8 := h_rgv hz8
  refine h_aload_n (pc' := 362) rfl rfl rfl ?_
  refine h_iload_n (pc' := 363) rfl rfl rfl ?_
  refine h_iconst (pc' := 364) (x := (Int32.ofInt 2)) rfl rfl rfl ?_
  refine h_iadd (pc' := 365) rfl rfl hy3 ci_2 rfl (by omega) (by omega) (fun z9 hz9 => ?_)
  refine h_iald (pc' := 366) (v := s0 0 (b3 + 2)) rfl rfl rfl hz9 (by omega) (by omega) (Zs6 _) (fun z10 hz10 => ?_)
  have tz10 := h_rgv hz10
  refine h_call (sp := false) (pc' := 369) (M := [(0, .ref 98), (1, .int z8), (2, .int z10)]) rfl rfl rfl rfl rfl rfl rfl rfl ?_
  refine w_170_98 _ Is6 z8 _ hz8 z10 _ hz10 (fun r11 br11 hr11 s12 Is12 Gs12 => h_Kv ?_)
  have Zs12 : ∀ i, s12 0 i = s0 0 i := fun i => (Gs12 0 i rfl).trans (Zs6 i)
  have Fs12 : h_F (fun _ _ => true) s12 s0 := fun _ _ h => by cases h
  have es12_0 : s12 64 1 = s0 64 1 := (Gs12 64 1 rfl).trans es6_0
  have es12_1 : s12 98 11 = s0 98 11 := (Gs12 98 11 rfl).trans es6_1
  have es12_2 : s12 64 4 = s0 64 4 := (Gs12 64 4 rfl).trans es6_2
  have es12_3 : s12 98 16 = s0 98 16 := (Gs12 98 16 rfl).trans es6_3
  have es12_4 : s12 90 2 = s0 90 2 := (Gs12 90 2 rfl).trans es6_4
  have es12_5 : s12 98 29 = s0 98 29 := (Gs12 98 29 rfl).trans es6_5
  have es12_6 : s12 63 2 = s0 63 2 := (Gs12 63 2 rfl).trans es6_6
  clear es6_0 es6_1 es6_2 es6_3 es6_4 es6_5 es6_6
  refine h_pop (pc' := 370) rfl rfl rfl ?_
  refine h_goto (pc' := 1441) rfl rfl ?_
  exact kk _ Is12 (by first | exact d_tape.le j0 (Int.le_antisymm (by omega) (by omega)) (by omega) (fun j => (Gs12 65 j rfl).trans ((Gs6 65 j rfl))) (fun j => (Gs12 102 j rfl).trans ((Gs6 102 j rfl))) | (exfalso; omega)) (Int.le_antisymm (by omega) (by omega)) (Int.le_antisymm (by omega) (by omega))
set_option maxHeartbeats 100000000 in
theorem g_case_373 {ns : Nat} (hns : ns ≤ 320) (s0 : h_S) (I0 : h_I s0) (j0 : d_tape s0 s0) (j1 : s0 64 4 = s0 98 16) (j2 : s0 90 2 = s0 98 29) (y3 : Int32) (b3 : Int) (hy3 : y3.toInt = b3) (hr : 0 ≤ b3 ∧ b3 + 5 ≤ ns) {Q : Option Value → h_S → Prop} (kk : ∀ τ, h_I τ → (d_tape τ τ) → (τ 64 4 = τ 98 16) → (τ 90 2 = τ 98 29) → h_T g_P (g_Y ns) 225 1441 [(0, .ref 0), (1, .ref 9), (2, .ref 98), (3, .int y3)] [] τ Q) : h_T g_P (g_Y ns) 225 373 [(0, .ref 0), (1, .ref 9), (2, .ref 98), (3, .int y3)] [] s0 Q := by
  have F0_ : h_F (fun _ _ => true) s0 s0 := h_F.rf
  have j0_ := j0.2
  have i0 := tf_64_1 I0
  have i1 := tf_98_11 I0
  have i2 := tf_64_4 I0
  have i3 := tf_98_16 I0
  have i4 := tf_90_2 I0
  have i5 := tf_98_29 I0
  have i6 := tf_63_2 I0
  refine h_aload_n (pc' := 374) rfl rfl rfl ?_
  refine h_aload_n (pc' := 375) rfl rfl rfl ?_
  refine h_iload_n (pc' := 376) rfl rfl rfl ?_
  refine h_iconst (pc' := 377) (x := (Int32.ofInt 1)) rfl rfl rfl ?_
  refine h_iadd (pc' := 378) rfl rfl hy3 ci_1 rfl (by omega) (by omega) (fun z1 hz1 => ?_)
  refine h_iald (pc' := 379) (v := s0 0 (b3 + 1)) rfl rfl rfl hz1 (by omega) (by omega) rfl (fun z2 hz2 => ?_)
  have tz2 := h_rgv hz2
  refine h_aload_n (pc' := 380) rfl rfl rfl ?_
  refine h_iload_n (pc' := 381) rfl rfl rfl ?_
  refine h_iconst (pc' := 382) (x := (Int32.ofInt 2)) rfl rfl rfl ?_
  refine h_iadd (pc' := 383) rfl rfl hy3 ci_2 rfl (by omega) (by omega) (fun z3 hz3 => ?_)
  refine h_iald (pc' := 384) (v := s0 0 (b3 + 2)) rfl rfl rfl hz3 (by omega) (by omega) rfl (fun z4 hz4 => ?_)
  have tz4 := h_rgv hz4
  refine h_call (sp := false) (pc' := 387) (M := [(0, .ref 9), (1, .int z2), (2, .int z4)]) rfl rfl rfl rfl rfl rfl rfl rfl ?_
  refine w_89_9 _ I0 z2 _ hz2 z4 _ hz4 (fun r5 br5 hr5 s6 Is6 Gs6 tr5 => h_Kv ?_)
  have Zs6 : ∀ i, s6 0 i = s0 0 i := fun i => (Gs6 0 i rfl).trans rfl
  have Fs6 : h_F (fun _ _ => true) s6 s0 := fun _ _ h => by cases h
  have es6_0 : s6 64 1 = s0 64 1 := (Gs6 64 1 rfl).trans rfl
  have es6_1 : s6 98 11 = s0 98 11 := (Gs6 98 11 rfl).trans rfl
  have es6_2 : s6 64 4 = s0 64 4 := (Gs6 64 4 rfl).trans rfl
  have es6_3 : s6 98 16 = s0 98 16 := (Gs6 98 16 rfl).trans rfl
  have es6_4 : s6 90 2 = s0 90 2 := (Gs6 90 2 rfl).trans rfl
  have es6_5 : s6 98 29 = s0 98 29 := (Gs6 98 29 rfl).trans rfl
  have es6_6 : s6 63 2 = s0 63 2 := (Gs6 63 2 rfl).trans rfl
  refine h_pop (pc' := 388) rfl rfl rfl ?_
  refine h_aload_n (pc' := 389) rfl rfl rfl ?_
  refine h_aload_n (pc' := 390) rfl rfl rfl ?_
  refine h_iload_n (pc' := 391) rfl rfl rfl ?_
  refine h_iconst (pc' := 392) (x := (Int32.ofInt 1)) rfl rfl rfl ?_
  refine h_iadd (pc' := 393) rfl rfl hy3 ci_1 rfl (by omega) (by omega) (fun z7 hz7 => ?_)
  refine h_iald (pc' := 394) (v := s0 0 (b3 + 1)) rfl rfl rfl hz7 (by omega) (by omega) (Zs6 _) (fun z8 hz8 => ?_)
  have tz8 := h_rgv hz8
  refine h_aload_n (pc' := 395) rfl rfl rfl ?_
  refine h_iload_n (pc' := 396) rfl rfl rfl ?_
  refine h_iconst (pc' := 397) (x := (Int32.ofInt 2)) rfl rfl rfl ?_
  refine h_iadd (pc' := 398) rfl rfl hy3 ci_2 rfl (by omega) (by omega) (fun z9 hz9 => ?_)
  refine h_iald (pc' := 399) (v := s0 0 (b3 + 2)) rfl rfl rfl hz9 (by omega) (by omega) (Zs6 _) (fun z10 hz10 => ?_)
  have tz10 := h_rgv hz10
  refine h_call (sp := false) (pc' := 402) (M := [(0, .ref 98), (1, .int z8), (2, .int z10)]) rfl rfl rfl rfl rfl rfl rfl rfl ?_
  refine w_173_98 _ Is6 z8 _ hz8 z10 _ hz10 (fun r11 br11 hr11 s12 Is12 Gs12 tr11 => h_Kv ?_)
  have Zs12 : ∀ i, s12 0 i = s0 0 i := fun i => (Gs12 0 i rfl).trans (Zs6 i)
  have Fs12 : h_F (fun _ _ => true) s12 s0 := fun _ _ h => by cases h
  have es12_0 : s12 64 1 = s0 64 1 := (Gs12 64 1 rfl).trans es6_0
  have es12_1 : s12 98 11 = s0 98 11 := (Gs12 98 11 rfl).trans es6_1
  have es12_2 : s12 64 4 = s0 64 4 := (Gs12 64 4 rfl).trans es6_2
  have es12_3 : s12 98 16 = s0 98 16 := (Gs12 98 16 rfl).trans es6_3
  have es12_4 : s12 90 2 = s0 90 2 := (Gs12 90 2 rfl).trans es6_4
  have es12_5 : s12 98 29 = s0 98 29 := (Gs12 98 29 rfl).trans es6_5
  have es12_6 : s12 63 2 = s0 63 2 := (Gs12 63 2 rfl).trans es6_6
  clear es6_0 es6_1 es6_2 es6_3 es6_4 es6_5 es6_6
  refine h_pop (pc' := 403) rfl rfl rfl ?_
  refine h_goto (pc' := 1441) rfl rfl ?_
  exact kk _ Is12 (by first | exact d_tape.le j0 (Int.le_antisymm (by omega) (by omega)) (by omega) (fun j => (Gs12 65 j rfl).trans ((Gs6 65 j rfl))) (fun j => (Gs12 102 j rfl).trans ((Gs6 102 j rfl))) | (exfalso; omega)) (Int.le_antisymm (by omega) (by omega)) (Int.le_antisymm (by omega) (by omega))
set_option maxHeartbeats 100000000 in
theorem g_case_406 {ns : Nat} (hns : ns ≤ 320) (s0 : h_S) (I0 : h_I s0) (j0 : d_tape s0 s0) (j1 : s0 64 4 = s0 98 16) (j2 : s0 90 2 = s0 98 29) (y3 : Int32) (b3 : Int) (hy3 : y3.toInt = b3) (hr : 0 ≤ b3 ∧ b3 + 5 ≤ ns) {Q : Option Value → h_S → Prop} (kk : ∀ τ, h_I τ → (d_tape τ τ) → (τ 64 4 = τ 98 16) → (τ 90 2 = τ 98 29) → h_T g_P (g_Y ns) 225 1441 [(0, .ref 0), (1, .ref 9), (2, .ref 98), (3, .int y3)] [] τ Q) : h_T g_P (g_Y ns) 225 406 [(0, .ref 0), (1, .ref 9), (2, .ref 98), (3, .int y3)] [] s0 Q := by
  have F0_ : h_F (fun _ _ => true) s0 s0 := h_F.rf
  have j0_ := j0.2
  have i0 := tf_64_1 I0
  have i1 := tf_98_11 I0
  have i2 := tf_64_4 I0
  have i3 := tf_98_16 I0
  have i4 := tf_90_2 I0
  have i5 := tf_98_29 I0
  have i6 := tf_63_2 I0
  refine h_aload_n (pc' := 407) rfl rfl rfl ?_
  refine h_aload_n (pc' := 408) rfl rfl rfl ?_
  refine h_iload_n (pc' := 409) rfl rfl rfl ?_
  refine h_iconst (pc' := 410) (x := (Int32.ofInt 1)) rfl rfl rfl ?_
  refine h_iadd (pc' := 411) rfl rfl hy3 ci_1 rfl (by omega) (by omega) (fun z1 hz1 => ?_)
  refine h_iald (pc' := 412) (v := s0 0 (b3 + 1)) rfl rfl rfl hz1 (by omega) (by omega) rfl (fun z2 hz2 => ?_)
  have tz2 := h_rgv hz2
  refine h_call (sp := false) (pc' := 415) (M := [(0, .ref 9), (1, .int z2)]) rfl rfl rfl rfl rfl rfl rfl rfl ?_
  refine w_90_9 _ I0 z2 _ hz2 (fun r3 br3 hr3 s4 Is4 Gs4 tr3 => h_Kv ?_)
  have Zs4 : ∀ i, s4 0 i = s0 0 i := fun i => (Gs4 0 i rfl).trans rfl
  have Fs4 : h_F (fun _ _ => true) s4 s0 := fun _ _ h => by cases h
  have es4_0 : s4 64 1 = s0 64 1 := (Gs4 64 1 rfl).trans rfl
  have es4_1 : s4 98 11 = s0 98 11 := (Gs4 98 11 rfl).trans rfl
  have es4_2 : s4 64 4 = s0 64 4 := (Gs4 64 4 rfl).trans rfl
  have es4_3 : s4 98 16 = s0 98 16 := (Gs4 98 16 rfl).trans rfl
  have es4_4 : s4 90 2 = s0 90 2 := (Gs4 90 2 rfl).trans rfl
  have es4_5 : s4 98 29 = s0 98 29 := (Gs4 98 29 rfl).trans rfl
  have es4_6 : s4 63 2 = s0 63 2 := (Gs4 63 2 rfl).trans rfl
  refine h_pop (pc' := 416) rfl rfl rfl ?_
  refine h_aload_n (pc' := 417) rfl rfl rfl ?_
  refine h_aload_n (pc' := 418) rfl rfl rfl ?_
  refine h_iload_n (pc' := 419) rfl rfl rfl ?_
  refine h_iconst (pc' := 420) (x := (Int32.ofInt 1)) rfl rfl rfl ?_
  refine h_iadd (pc' := 421) rfl rfl hy3 ci_1 rfl (by omega) (by omega) (fun z5 hz5 => ?_)
  refine h_iald (pc' := 422) (v := s0 0 (b3 + 1)) rfl rfl rfl hz5 (by omega) (by omega) (Zs4 _) (fun z6 hz6 => ?_)
  have tz6 := h_rgv hz6
  refine h_call (sp := false) (pc' := 425) (M := [(0, .ref 98), (1, .int z6)]) rfl rfl rfl rfl rfl rfl rfl rfl ?_
  refine w_174_98 _ Is4 z6 _ hz6 (fun r7 br7 hr7 s8 Is8 Gs8 tr7 => h_Kv ?_)
  have Zs8 : ∀ i, s8 0 i = s0 0 i := fun i => (Gs8 0 i rfl).trans (Zs4 i)
  have Fs8 : h_F (fun _ _ => true) s8 s0 := fun _ _ h => by cases h
  have es8_0 : s8 64 1 = s0 64 1 := (Gs8 64 1 rfl).trans es4_0
  have es8_1 : s8 98 11 = s0 98 11 := (Gs8 98 11 rfl).trans es4_1
  have es8_2 : s8 64 4 = s0 64 4 := (Gs8 64 4 rfl).trans es4_2
  have es8_3 : s8 98 16 = s0 98 16 := (Gs8 98 16 rfl).trans es4_3
  have es8_4 : s8 90 2 = s0 90 2 := (Gs8 90 2 rfl).trans es4_4
  have es8_5 : s8 98 29 = s0 98 29 := (Gs8 98 29 rfl).trans es4_5
  have es8_6 : s8 63 2 = s0 63 2 := (Gs8 63 2 rfl).trans es4_6
  clear es4_0 es4_1 es4_2 es4_3 es4_4 es4_5 es4_6
  refine h_pop (pc' := 426) rfl rfl rfl ?_
  refine h_goto (pc' := 1441) rfl rfl ?_
  exact kk _ Is8 (by first | exact d_tape.le j0 (Int.le_antisymm (by omega) (by omega)) (by omega) (fun j => (Gs8 65 j rfl).trans ((Gs4 65 j rfl))) (fun j => (Gs8 102 j rfl).trans ((Gs4 102 j rfl))) | (exfalso; omega)) (Int.le_antisymm (by omega) (by omega)) (Int.le_antisymm (by omega) (by omega))
set_option maxHeartbeats 100000000 in
theorem g_case_429 {ns : Nat} (hns : ns ≤ 320) (s0 : h_S) (I0 : h_I s0) (j0 : d_tape s0 s0) (j1 : s0 64 4 = s0 98 16) (j2 : s0 90 2 = s0 98 29) (y3 : Int32) (b3 : Int) (hy3 : y3.toInt = b3) (hr : 0 ≤ b3 ∧ b3 + 5 ≤ ns) {Q : Option Value → h_S → Prop} (kk : ∀ τ, h_I τ → (d_tape τ τ) → (τ 64 4 = τ 98 16) → (τ 90 2 = τ 98 29) → h_T g_P (g_Y ns) 225 1441 [(0, .ref 0), (1, .ref 9), (2, .ref 98), (3, .int y3)] [] τ Q) : h_T g_P (g_Y ns) 225 429 [(0, .ref 0), (1, .ref 9), (2, .ref 98), (3, .int y3)] [] s0 Q := by
  have F0_ : h_F (fun _ _ => true) s0 s0 := h_F.rf
  have j0_ := j0.2
  have i0 := tf_64_1 I0
  have i1 := tf_98_11 I0
  have i2 := tf_64_4 I0
  have i3 := tf_98_16 I0
  have i4 := tf_90_2 I0
  have i5 := tf_98_29 I0
  have i6 := tf_63_2 I0
  refine h_aload_n (pc' := 430) rfl rfl rfl ?_
  refine h_aload_n (pc' := 431) rfl rfl rfl ?_
  refine h_iload_n (pc' := 432) rfl rfl rfl ?_
  refine h_iconst (pc' := 433) (x := (Int32.ofInt 1)) rfl rfl rfl ?_
  refine h_iadd (pc' := 434) rfl rfl hy3 ci_1 rfl (by omega) (by omega) (fun z1 hz1 => ?_)
  refine h_iald (pc' := 435) (v := s0 0 (b3 + 1)) rfl rfl rfl hz1 (by omega) (by omega) rfl (fun z2 hz2 => ?_)
  have tz2 := h_rgv hz2
  refine h_aload_n (pc' := 436) rfl rfl rfl ?_
  refine h_iload_n (pc' := 437) rfl rfl rfl ?_
  refine h_iconst (pc' := 438) (x := (Int32.ofInt 2)) rfl rfl rfl ?_
  refine h_iadd (pc' := 439) rfl rfl hy3 ci_2 rfl (by omega) (by omega) (fun z3 hz3 => ?_)
  refine h_iald (pc' := 440) (v := s0 0 (b3 + 2)) rfl rfl rfl hz3 (by omega) (by omega) rfl (fun z4 hz4 => ?_)
  have tz4 := h_rgv hz4
  refine h_call (sp := false) (pc' := 443) (M := [(0, .ref 9), (1, .int z2), (2, .int z4)]) rfl rfl rfl rfl rfl rfl rfl rfl ?_
  refine w_91_9 _ I0 z2 _ hz2 z4 _ hz4 (fun r5 br5 hr5 s6 Is6 Gs6 tr5 => h_Kv ?_)
  have Zs6 : ∀ i, s6 0 i = s0 0 i := fun i => (Gs6 0 i rfl).trans rfl
  have Fs6 : h_F (fun _ _ => true) s6 s0 := fun _ _ h => by cases h
  have es6_0 : s6 64 1 = s0 64 1 := (Gs6 64 1 rfl).trans rfl
  have es6_1 : s6 98 11 = s0 98 11 := (Gs6 98 11 rfl).trans rfl
  have es6_2 : s6 64 4 = s0 64 4 := (Gs6 64 4 rfl).trans rfl
  have es6_3 : s6 98 16 = s0 98 16 := (Gs6 98 16 rfl).trans rfl
  have es6_4 : s6 90 2 = s0 90 2 := (Gs6 90 2 rfl).trans rfl
  have es6_5 : s6 98 29 = s0 98 29 := (Gs6 98 29 rfl).trans rfl
  have es6_6 : s6 63 2 = s0 63 2 := (Gs6 63 2 rfl).trans rfl
  refine h_pop (pc' := 444) rfl rfl rfl ?_
  refine h_aload_n (pc' := 445) rfl rfl rfl ?_
  refine h_aload_n (pc' := 446) rfl rfl rfl ?_
  refine h_iload_n (pc' := 447) rfl rfl rfl ?_
  refine h_iconst (pc' := 448) (x := (Int32.ofInt 1)) rfl rfl rfl ?_
  refine h_iadd (pc' := 449) rfl rfl hy3 ci_1 rfl (by omega) (by omega) (fun z7 hz7 => ?_)
  refine h_iald (pc' := 450) (v := s0 0 (b3 + 1)) rfl rfl rfl hz7 (by omega) (by omega) (Zs6 _) (fun z8 hz8 => ?_)
  have tz8 := h_rgv hz8
  refine h_aload_n (pc' := 451) rfl rfl rfl ?_
  refine h_iload_n (pc' := 452) rfl rfl rfl ?_
  refine h_iconst (pc' := 453) (x := (Int32.ofInt 2)) rfl rfl rfl ?_
  refine h_iadd (pc' := 454) rfl rfl hy3 ci_2 rfl (by omega) (by omega) (fun z9 hz9 => ?_)
  refine h_iald (pc' := 455) (v := s0 0 (b3 + 2)) rfl rfl rfl hz9 (by omega) (by omega) (Zs6 _) (fun z10 hz10 => ?_)
  have tz10 := h_rgv hz10
  refine h_call (sp := false) (pc' := 458) (M := [(0, .ref 98), (1, .int z8), (2, .int z10)]) rfl rfl rfl rfl rfl rfl rfl rfl ?_
  refine w_175_98 _ Is6 z8 _ hz8 z10 _ hz10 (fun r11 br11 hr11 s12 Is12 Gs12 tr11 => h_Kv ?_)
  have Zs12 : ∀ i, s12 0 i = s0 0 i := fun i => (Gs12 0 i rfl).trans (Zs6 i)
  have Fs12 : h_F (fun _ _ => true) s12 s0 := fun _ _ h => by cases h
  have es12_0 : s12 64 1 = s0 64 1 := (Gs12 64 1 rfl).trans es6_0
  have es12_1 : s12 98 11 = s0 98 11 := (Gs12 98 11 rfl).trans es6_1
  have es12_2 : s12 64 4 = s0 64 4 := (Gs12 64 4 rfl).trans es6_2
  have es12_3 : s12 98 16 = s0 98 16 := (Gs12 98 16 rfl).trans es6_3
  have es12_4 : s12 90 2 = s0 90 2 := (Gs12 90 2 rfl).trans es6_4
  have es12_5 : s12 98 29 = s0 98 29 := (Gs12 98 29 rfl).trans es6_5
  have es12_6 : s12 63 2 = s0 63 2 := (Gs12 63 2 rfl).trans es6_6
  clear es6_0 es6_1 es6_2 es6_3 es6_4 es6_5 es6_6
  refine h_pop (pc' := 459) rfl rfl rfl ?_
  refine h_goto (pc' := 1441) rfl rfl ?_
  exact kk _ Is12 (by first | exact d_tape.le j0 (Int.le_antisymm (by omega) (by omega)) (by omega) (fun j => (Gs12 65 j rfl).trans ((Gs6 65 j rfl))) (fun j => (Gs12 102 j rfl).trans ((Gs6 102 j rfl))) | (exfalso; omega)) (Int.le_antisymm (by omega) (by omega)) (Int.le_antisymm (by omega) (by omega))
set_option maxHeartbeats 100000000 in
theorem g_case_462 {ns : Nat} (hns : ns ≤ 320) (s0 : h_S) (I0 : h_I s0) (j0 : d_tape s0 s0) (j1 : s0 64 4 = s0 98 16) (j2 : s0 90 2 = s0 98 29) (y3 : Int32) (b3 : Int) (hy3 : y3.toInt = b3) (hr : 0 ≤ b3 ∧ b3 + 5 ≤ ns) {Q : Option Value → h_S → Prop} (kk : ∀ τ, h_I τ → (d_tape τ τ) → (τ 64 4 = τ 98 16) → (τ 90 2 = τ 98 29) → h_T g_P (g_Y ns) 225 1441 [(0, .ref 0), (1, .ref 9), (2, .ref 98), (3, .int y3)] [] τ Q) : h_T g_P (g_Y ns) 225 462 [(0, .ref 0), (1, .ref 9), (2, .ref 98), (3, .int y3)] [] s0 Q := by
  have F0_ : h_F (fun _ _ => true) s0 s0 := h_F.rf
  have j0_ := j0.2
  have i0 := tf_64_1 I0
  have i1 := tf_98_11 I0
  have i2 := tf_64_4 I0
  have i3 := tf_98_16 I0
  have i4 := tf_90_2 I0
  have i5 := tf_98_29 I0
  have i6 := tf_63_2 I0
  refine h_aload_n (pc' := 463) rfl rfl rfl ?_
  refine h_aload_n (pc' := 464) rfl rfl rfl ?_
  refine h_iload_n (pc' := 465) rfl rfl rfl ?_
  refine h_iconst (pc' := 466) (x := (Int32.ofInt 1)) rfl rfl rfl ?_
  refine h_iadd (pc' := 467) rfl rfl hy3 ci_1 rfl (by omega) (by omega) (fun z1 hz1 => ?_)
  refine h_iald (pc' := 468) (v := s0 0 (b3 + 1)) rfl rfl rfl hz1 (by omega) (by omega) rfl (fun z2 hz2 => ?_)
  have tz2 := h_rgv hz2
  refine h_aload_n (pc' := 469) rfl rfl rfl ?_
  refine h_iload_n (pc' := 470) rfl rfl rfl ?_
  refine h_iconst (pc' := 471) (x := (Int32.ofInt 2)) rfl rfl rfl ?_
  refine h_iadd (pc' := 472) rfl rfl hy3 ci_2 rfl (by omega) (by omega) (fun z3 hz3 => ?_)
  refine h_iald (pc' := 473) (v := s0 0 (b3 + 2)) rfl rfl rfl hz3 (by omega) (by omega) rfl (fun z4 hz4 => ?_)
  have tz4 := h_rgv hz4
  refine h_call (sp := false) (pc' := 476) (M := [(0, .ref 9), (1, .int z2), (2, .int z4)]) rfl rfl rfl rfl rfl rfl rfl rfl ?_
  refine w_92_9 _ I0 z2 _ hz2 z4 _ hz4 (fun r5 br5 hr5 s6 Is6 Gs6 tr5 => h_Kv ?_)
  have Zs6 : ∀ i, s6 0 i = s0 0 i := fun i => (Gs6 0 i rfl).trans rfl
  have Fs6 : h_F (fun _ _ => true) s6 s0 := fun _ _ h => by cases h
  have es6_0 : s6 64 1 = s0 64 1 := (Gs6 64 1 rfl).trans rfl
  have es6_1 : s6 98 11 = s0 98 11 := (Gs6 98 11 rfl).trans rfl
  have es6_2 : s6 64 4 = s0 64 4 := (Gs6 64 4 rfl).trans rfl
  have es6_3 : s6 98 16 = s0 98 16 := (Gs6 98 16 rfl).trans rfl
  have es6_4 : s6 90 2 = s0 90 2 := (Gs6 90 2 rfl).trans rfl
  have es6_5 : s6 98 29 = s0 98 29 := (Gs6 98 29 rfl).trans rfl
  have es6_6 : s6 63 2 = s0 63 2 := (Gs6 63 2 rfl).trans rfl
  refine h_pop (pc' := 477) rfl rfl rfl ?_
  refine h_aload_n (pc' := 478) rfl rfl rfl ?_
  refine h_aload_n (pc' := 479) rfl rfl rfl ?_
  refine h_iload_n (pc' := 480) rfl rfl rfl ?_
  refine h_iconst (pc' := 481) (x := (Int32.ofInt 1)) rfl rfl rfl ?_
  refine h_iadd (pc' := 482) rfl rfl hy3 ci_1 rfl (by omega) (by omega) (fun z7 hz7 => ?_)
  refine h_iald (pc' := 483) (v := s0 0 (b3 + 1)) rfl rfl rfl hz7 (by omega) (by omega) (Zs6 _) (fun z8 hz8 => ?_)
  have tz8 := h_rgv hz8
  refine h_aload_n (pc' := 484) rfl rfl rfl ?_
  refine h_iload_n (pc' := 485) rfl rfl rfl ?_
  refine h_iconst (pc' := 486) (x := (Int32.ofInt 2)) rfl rfl rfl ?_
  refine h_iadd (pc' := 487) rfl rfl hy3 ci_2 rfl (by omega) (by omega) (fun z9 hz9 => ?_)
  refine h_iald (pc' := 488) (v := s0 0 (b3 + 2)) rfl rfl rfl hz9 (by omega) (by omega) (Zs6 _) (fun z10 hz10 => ?_)
  have tz10 := h_rgv hz10
  refine h_call (sp := false) (pc' := 491) (M := [(0, .ref 98), (1, .int z8), (2, .int z10)]) rfl rfl rfl rfl rfl rfl rfl rfl ?_
  refine w_177_98 _ Is6 z8 _ hz8 z10 _ hz10 (fun r11 br11 hr11 s12 Is12 Gs12 tr11 => h_Kv ?_)
  have Zs12 : ∀ i, s12 0 i = s0 0 i := fun i => (Gs12 0 i rfl).trans (Zs6 i)
  have Fs12 : h_F (fun _ _ => true) s12 s0 := fun _ _ h => by cases h
  have es12_0 : s12 64 1 = s0 64 1 := (Gs12 64 1 rfl).trans es6_0
  have es12_1 : s12 98 11 = s0 98 11 := (Gs12 98 11 rfl).trans es6_1
  have es12_2 : s12 64 4 = s0 64 4 := (Gs12 64 4 rfl).trans es6_2
  have es12_3 : s12 98 16 = s0 98 16 := (Gs12 98 16 rfl).trans es6_3
  have es12_4 : s12 90 2 = s0 90 2 := (Gs12 90 2 rfl).trans es6_4
  have es12_5 : s12 98 29 = s0 98 29 := (Gs12 98 29 rfl).trans es6_5
  have es12_6 : s12 63 2 = s0 63 2 := (Gs12 63 2 rfl).trans es6_6
  clear es6_0 es6_1 es6_2 es6_3 es6_4 es6_5 es6_6
  refine h_pop (pc' := 492) rfl rfl rfl ?_
  refine h_goto (pc' := 1441) rfl rfl ?_
  exact kk _ Is12 (by first | exact d_tape.le j0 (Int.le_antisymm (by omega) (by omega)) (by omega) (fun j => (Gs12 65 j rfl).trans ((Gs6 65 j rfl))) (fun j => (Gs12 102 j rfl).trans ((Gs6 102 j rfl))) | (exfalso; omega)) (Int.le_antisymm (by omega) (by omega)) (Int.le_antisymm (by omega) (by omega))
set_option maxHeartbeats 100000000 in
theorem g_case_495 {ns : Nat} (hns : ns ≤ 320) (s0 : h_S) (I0 : h_I s0) (j0 : d_tape s0 s0) (j1 : s0 64 4 = s0 98 16) (j2 : s0 90 2 = s0 98 29) (y3 : Int32) (b3 : Int) (hy3 : y3.toInt = b3) (hr : 0 ≤ b3 ∧ b3 + 5 ≤ ns) {Q : Option Value → h_S → Prop} (kk : ∀ τ, h_I τ → (d_tape τ τ) → (τ 64 4 = τ 98 16) → (τ 90 2 = τ 98 29) → h_T g_P (g_Y ns) 225 1441 [(0, .ref 0), (1, .ref 9), (2, .ref 98), (3, .int y3)] [] τ Q) : h_T g_P (g_Y ns) 225 495 [(0, .ref 0), (1, .ref 9), (2, .ref 98), (3, .int y3)] [] s0 Q := by
  have F0_ : h_F (fun _ _ => true) s0 s0 := h_F.rf
  have j0_ := j0.2
  have i0 := tf_64_1 I0
  have i1 := tf_98_11 I0
  have i2 := tf_64_4 I0
  have i3 := tf_98_16 I0
  have i4 := tf_90_2 I0
  have i5 := tf_98_29 I0
  have i6 := tf_63_2 I0
  refine h_aload_n (pc' := 496) rfl rfl rfl ?_
  refine h_aload_n (pc' := 497) rfl rfl rfl ?_
  refine h_iload_n (pc' := 498) rfl rfl rfl ?_
  refine h_iconst (pc' := 499) (x := (Int32.ofInt 1)) rfl rfl rfl ?_
  refine h_iadd (pc' := 500) rfl rfl hy3 ci_1 rfl (by omega) (by omega) (fun z1 hz1 => ?_)
  refine h_iald (pc' := 501) (v := s0 0 (b3 + 1)) rfl rfl rfl hz1 (by omega) (by omega) rfl (fun z2 hz2 => ?_)
  have tz2 := h_rgv hz2
  refine h_aload_n (pc' := 502) rfl rfl rfl ?_
  refine h_iload_n (pc' := 503) rfl rfl rfl ?_
  refine h_iconst (pc' := 504) (x := (Int32.ofInt 2)) rfl rfl rfl ?_
  refine h_iadd (pc' := 505) rfl rfl hy3 ci_2 rfl (by omega) (by omega) (fun z3 hz3 => ?_)
  refine h_iald (pc' := 506) (v := s0 0 (b3 + 2)) rfl rfl rfl hz3 (by omega) (by omega) rfl (fun z4 hz4 => ?_)
  have tz4 := h_rgv hz4
  refine h_aload_n (pc' := 507) rfl rfl rfl ?_
  refine h_iload_n (pc' := 508) rfl rfl rfl ?_
  refine h_iconst (pc' := 509) (x := (Int32.ofInt 3)) rfl rfl rfl ?_
  refine h_iadd (pc' := 510) rfl rfl hy3 ci_3 rfl (by omega) (by omega) (fun z5 hz5 => ?_)
  refine h_iald (pc' := 511) (v := s0 0 (b3 + 3)) rfl rfl rfl hz5 (by omega) (by omega) rfl (fun z6 hz6 => ?_)
  have tz6 := h_rgv hz6
  refine h_call (sp := false) (pc' := 514) (M := [(0, .ref 9), (1, .int z2), (2, .int z4), (3, .int z6)]) rfl rfl rfl rfl rfl rfl rfl rfl ?_
  refine w_93_9 _ I0 z2 _ hz2 z4 _ hz4 z6 _ hz6 (fun r7 br7 hr7 s8 Is8 Gs8 tr7 => h_Kv ?_)
  have Zs8 : ∀ i, s8 0 i = s0 0 i := fun i => (Gs8 0 i rfl).trans rfl
  have Fs8 : h_F (fun _ _ => true) s8 s0 := fun _ _ h => by cases h
  have es8_0 : s8 64 1 = s0 64 1 := (Gs8 64 1 rfl).trans rfl
  have es8_1 : s8 98 11 = s0 98 11 := (Gs8 98 11 rfl).trans rfl
  have es8_2 : s8 64 4 = s0 64 4 := (Gs8 64 4 rfl).trans rfl
  have es8_3 : s8 98 16 = s0 98 16 := (Gs8 98 16 rfl).trans rfl
  have es8_4 : s8 90 2 = s0 90 2 := (Gs8 90 2 rfl).trans rfl
  have es8_5 : s8 98 29 = s0 98 29 := (Gs8 98 29 rfl).trans rfl
  have es8_6 : s8 63 2 = s0 63 2 := (Gs8 63 2 rfl).trans rfl
  refine h_pop (pc' := 515) rfl rfl rfl ?_
  refine h_aload_n (pc' := 516) rfl rfl rfl ?_
  refine h_aload_n (pc' := 517) rfl rfl rfl ?_
  refine h_iload_n (pc' := 518) rfl rfl rfl ?_
  refine h_iconst (pc' := 519) (x := (Int32.ofInt 1)) rfl rfl rfl ?_
  refine h_iadd (pc' := 520) rfl rfl hy3 ci_1 rfl (by omega) (by omega) (fun z9 hz9 => ?_)
  refine h_iald (pc' := 521) (v := s0 0 (b3 + 1)) rfl rfl rfl hz9 (by omega) (by omega) (Zs8 _) (fun z10 hz10 => ?_)
  have tz10 := h_rgv hz10
  refine h_aload_n (pc' := 522) rfl rfl rfl ?_
  refine h_iload_n (pc' := 523) rfl rfl rfl ?_
  refine h_iconst (pc' := 524) (x := (Int32.ofInt 2)) rfl rfl rfl ?_
  refine h_iadd (pc' := 525) rfl rfl hy3 ci_2 rfl (by omega) (by omega) (fun z11 hz11 => ?_)
  refine h_iald (pc' := 526) (v := s0 0 (b3 + 2)) rfl rfl rfl hz11 (by omega) (by omega) (Zs8 _) (fun z12 hz12 => ?_)
  have tz12 := h_rgv hz12
  refine h_aload_n (pc' := 527) rfl rfl rfl ?_
  refine h_iload_n (pc' := 528) rfl rfl rfl ?_
  refine h_iconst (pc' := 529) (x := (Int32.ofInt 3)) rfl rfl rfl ?_
  refine h_iadd (pc' := 530) rfl rfl hy3 ci_3 rfl (by omega) (by omega) (fun z13 hz13 => ?_)
  refine h_iald (pc' := 531) (v := s0 0 (b3 + 3)) rfl rfl rfl hz13 (by omega) (by omega) (Zs8 _) (fun z14 hz14 => ?_)
  have tz14 := h_rgv hz14
  refine h_call (sp := false) (pc' := 534) (M := [(0, .ref 98), (1, .int z10), (2, .int z12), (3, .int z14)]) rfl rfl rfl rfl rfl rfl rfl rfl ?_
  refine w_179_98 _ Is8 z10 _ hz10 z12 _ hz12 z14 _ hz14 (fun r15 br15 hr15 s16 Is16 Gs16 tr15 => h_Kv ?_)
  have Zs16 : ∀ i, s16 0 i = s0 0 i := fun i => (Gs16 0 i rfl).trans (Zs8 i)
  have Fs16 : h_F (fun _ _ => true) s16 s0 := fun _ _ h => by cases h
  have es16_0 : s16 64 1 = s0 64 1 := (Gs16 64 1 rfl).trans es8_0
  have es16_1 : s16 98 11 = s0 98 11 := (Gs16 98 11 rfl).trans es8_1
  have es16_2 : s16 64 4 = s0 64 4 := (Gs16 64 4 rfl).trans es8_2
  have es16_3 : s16 98 16 = s0 98 16 := (Gs16 98 16 rfl).trans es8_3
  have es16_4 : s16 90 2 = s0 90 2 := (Gs16 90 2 rfl).trans es8_4
  have es16_5 : s16 98 29 = s0 98 29 := (Gs16 98 29 rfl).trans es8_5
  have es16_6 : s16 63 2 = s0 63 2 := (Gs16 63 2 rfl).trans es8_6
  clear es8_0 es8_1 es8_2 es8_3 es8_4 es8_5 es8_6
  refine h_pop (pc' := 535) rfl rfl rfl ?_
  refine h_goto (pc' := 1441) rfl rfl ?_
  exact kk _ Is16 (by first | exact d_tape.le j0 (Int.le_antisymm (by omega) (by omega)) (by omega) (fun j => (Gs16 65 j rfl).trans ((Gs8 65 j rfl))) (fun j => (Gs16 102 j rfl).trans ((Gs8 102 j rfl))) | (exfalso; omega)) (Int.le_antisymm (by omega) (by omega)) (Int.le_antisymm (by omega) (by omega))
set_option maxHeartbeats 100000000 in
theorem g_case_538 {ns : Nat} (hns : ns ≤ 320) (s0 : h_S) (I0 : h_I s0) (j0 : d_tape s0 s0) (j1 : s0 64 4 = s0 98 16) (j2 : s0 90 2 = s0 98 29) (y3 : Int32) (b3 : Int) (hy3 : y3.toInt = b3) (hr : 0 ≤ b3 ∧ b3 + 5 ≤ ns) {Q : Option Value → h_S → Prop} (kk : ∀ τ, h_I τ → (d_tape τ τ) → (τ 64 4 = τ 98 16) → (τ 90 2 = τ 98 29) → h_T g_P (g_Y ns) 225 1441 [(0, .ref 0), (1, .ref 9), (2, .ref 98), (3, .int y3)] [] τ Q) : h_T g_P (g_Y ns) 225 538 [(0, .ref 0), (1, .ref 9), (2, .ref 98), (3, .int y3)] [] s0 Q := by
  have F0_ : h_F (fun _ _ => true) s0 s0 := h_F.rf
  have j0_ := j0.2
  have i0 := tf_64_1 I0
  have i1 := tf_98_11 I0
  have i2 := tf_64_4 I0
  have i3 := tf_98_16 I0
  have i4 := tf_90_2 I0
  have i5 := tf_98_29 I0
  have i6 := tf_63_2 I0
  refine h_aload_n (pc' := 539) rfl rfl rfl ?_
  refine h_aload_n (pc' := 540) rfl rfl rfl ?_
  refine h_iload_n (pc' := 541) rfl rfl rfl ?_
  refine h_iconst (pc' := 542) (x := (Int32.ofInt 1)) rfl rfl rfl ?_
  refine h_iadd (pc' := 543) rfl rfl hy3 ci_1 rfl (by omega) (by omega) (fun z1 hz1 => ?_)
  refine h_iald (pc' := 544) (v := s0 0 (b3 + 1)) rfl rfl rfl hz1 (by omega) (by omega) rfl (fun z2 hz2 => ?_)
  have tz2 := h_rgv hz2
  refine h_aload_n (pc' := 545) rfl rfl rfl ?_
  refine h_iload_n (pc' := 546) rfl rfl rfl ?_
  refine h_iconst (pc' := 547) (x := (Int32.ofInt 2)) rfl rfl rfl ?_
  refine h_iadd (pc' := 548) rfl rfl hy3 ci_2 rfl (by omega) (by omega) (fun z3 hz3 => ?_)
  refine h_iald (pc' := 549) (v := s0 0 (b3 + 2)) rfl rfl rfl hz3 (by omega) (by omega) rfl (fun z4 hz4 => ?_)
  have tz4 := h_rgv hz4
  refine h_call (sp := false) (pc' := 552) (M := [(0, .ref 9), (1, .int z2), (2, .int z4)]) rfl rfl rfl rfl rfl rfl rfl rfl ?_
  refine w_94_9 _ I0 z2 _ hz2 z4 _ hz4 (fun r5 br5 hr5 s6 Is6 Gs6 tr5 => h_Kv ?_)
  have Zs6 : ∀ i, s6 0 i = s0 0 i := fun i => (Gs6 0 i rfl).trans rfl
  have Fs6 : h_F (fun _ _ => true) s6 s0 := fun _ _ h => by cases h
  have es6_0 : s6 64 1 = s0 64 1 := (Gs6 64 1 rfl).trans rfl
  have es6_1 : s6 98 11 = s0 98 11 := (Gs6 98 11 rfl).trans rfl
  have es6_2 : s6 64 4 = s0 64 4 := (Gs6 64 4 rfl).trans rfl
  have es6_3 : s6 98 16 = s0 98 16 := (Gs6 98 16 rfl).trans rfl
  have es6_4 : s6 90 2 = s0 90 2 := (Gs6 90 2 rfl).trans rfl
  have es6_5 : s6 98 29 = s0 98 29 := (Gs6 98 29 rfl).trans rfl
  have es6_6 : s6 63 2 = s0 63 2 := (Gs6 63 2 rfl).trans rfl
  refine h_pop (pc' := 553) rfl rfl rfl ?_
  refine h_aload_n (pc' := 554) rfl rfl rfl ?_
  refine h_aload_n (pc' := 555) rfl rfl rfl ?_
  refine h_iload_n (pc' := 556) rfl rfl rfl ?_
  refine h_iconst (pc' := 557) (x := (Int32.ofInt 1)) rfl rfl rfl ?_
  refine h_iadd (pc' := 558) rfl rfl hy3 ci_1 rfl (by omega) (by omega) (fun z7 hz7 => ?_)
  refine h_iald (pc' := 559) (v := s0 0 (b3 + 1)) rfl rfl rfl hz7 (by omega) (by omega) (Zs6 _) (fun z8 hz8 => ?_)
  have tz8 := h_rgv hz8
  refine h_aload_n (pc' := 560) rfl rfl rfl ?_
  refine h_iload_n (pc' := 561) rfl rfl rfl ?_
  refine h_iconst (pc' := 562) (x := (Int32.ofInt 2)) rfl rfl rfl ?_
  refine h_iadd (pc' := 563) rfl rfl hy3 ci_2 rfl (by omega) (by omega) (fun z9 hz9 => ?_)
  refine h_iald (pc' := 564) (v := s0 0 (b3 + 2)) rfl rfl rfl hz9 (by omega) (by omega) (Zs6 _) (fun z10 hz10 => ?_)
  have tz10 := h_rgv hz10
  refine h_call (sp := false) (pc' := 567) (M := [(0, .ref 98), (1, .int z8), (2, .int z10)]) rfl rfl rfl rfl rfl rfl rfl rfl ?_
  refine w_181_98 _ Is6 z8 _ hz8 z10 _ hz10 (fun r11 br11 hr11 s12 Is12 Gs12 tr11 => h_Kv ?_)
  have Zs12 : ∀ i, s12 0 i = s0 0 i := fun i => (Gs12 0 i rfl).trans (Zs6 i)
  have Fs12 : h_F (fun _ _ => true) s12 s0 := fun _ _ h => by cases h
  have es12_0 : s12 64 1 = s0 64 1 := (Gs12 64 1 rfl).trans es6_0
  have es12_1 : s12 98 11 = s0 98 11 := (Gs12 98 11 rfl).trans es6_1
  have es12_2 : s12 64 4 = s0 64 4 := (Gs12 64 4 rfl).trans es6_2
  have es12_3 : s12 98 16 = s0 98 16 := (Gs12 98 16 rfl).trans es6_3
  have es12_4 : s12 90 2 = s0 90 2 := (Gs12 90 2 rfl).trans es6_4
  have es12_5 : s12 98 29 = s0 98 29 := (Gs12 98 29 rfl).trans es6_5
  have es12_6 : s12 63 2 = s0 63 2 := (Gs12 63 2 rfl).trans es6_6
  clear es6_0 es6_1 es6_2 es6_3 es6_4 es6_5 es6_6
  refine h_pop (pc' := 568) rfl rfl rfl ?_
  refine h_goto (pc' := 1441) rfl rfl ?_
  exact kk _ Is12 (by first | exact d_tape.le j0 (Int.le_antisymm (by omega) (by omega)) (by omega) (fun j => (Gs12 65 j rfl).trans ((Gs6 65 j rfl))) (fun j => (Gs12 102 j rfl).trans ((Gs6 102 j rfl))) | (exfalso; omega)) (Int.le_antisymm (by omega) (by omega)) (Int.le_antisymm (by omega) (by omega))
set_option maxHeartbeats 100000000 in
theorem g_case_571 {ns : Nat} (hns : ns ≤ 320) (s0 : h_S) (I0 : h_I s0) (j0 : d_tape s0 s0) (j1 : s0 64 4 = s0 98 16) (j2 : s0 90 2 = s0 98 29) (y3 : Int32) (b3 : Int) (hy3 : y3.toInt = b3) (hr : 0 ≤ b3 ∧ b3 + 5 ≤ ns) {Q : Option Value → h_S → Prop} (kk : ∀ τ, h_I τ → (d_tape τ τ) → (τ 64 4 = τ 98 16) → (τ 90 2 = τ 98 29) → h_T g_P (g_Y ns) 225 1441 [(0, .ref 0), (1, .ref 9), (2, .ref 98), (3, .int y3)] [] τ Q) : h_T g_P (g_Y ns) 225 571 [(0, .ref 0), (1, .ref 9), (2, .ref 98), (3, .int y3)] [] s0 Q := by
  have F0_ : h_F (fun _ _ => true) s0 s0 := h_F.rf
  have j0_ := j0.2
  have i0 := tf_64_1 I0
  have i1 := tf_98_11 I0
  have i2 := tf_64_4 I0
  have i3 := tf_98_16 I0
  have i4 := tf_90_2 I0
  have i5 := tf_98_29 I0
  have i6 := tf_63_2 I0
  refine h_aload_n (pc' := 572) rfl rfl rfl ?_
  refine h_aload_n (pc' := 573) rfl rfl rfl ?_
  refine h_iload_n (pc' := 574) rfl rfl rfl ?_
  refine h_iconst (pc' := 575) (x := (Int32.ofInt 1)) rfl rfl rfl ?_
  refine h_iadd (pc' := 576) rfl rfl hy3 ci_1 rfl (by omega) (by omega) (fun z1 hz1 => ?_)
  refine h_iald (pc' := 577) (v := s0 0 (b3 + 1)) rfl rfl rfl hz1 (by omega) (by omega) rfl (fun z2 hz2 => ?_)
  have tz2 := h_rgv hz2
  refine h_aload_n (pc' := 578) rfl rfl rfl ?_
  refine h_iload_n (pc' := 579) rfl rfl rfl ?_
  refine h_iconst (pc' := 580) (x := (Int32.ofInt 2)) rfl rfl rfl ?_
  refine h_iadd (pc' := 581) rfl rfl hy3 ci_2 rfl (by omega) (by omega) (fun z3 hz3 => ?_)
  refine h_iald (pc' := 582) (v := s0 0 (b3 + 2)) rfl rfl rfl hz3 (by omega) (by omega) rfl (fun z4 hz4 => ?_)
  have tz4 := h_rgv hz4
  refine h_call (sp := false) (pc' := 585) (M := [(0, .ref 9), (1, .int z2), (2, .int z4)]) rfl rfl rfl rfl rfl rfl rfl rfl ?_
  refine w_95_9 _ I0 z2 _ hz2 z4 _ hz4 (fun r5 br5 hr5 s6 Is6 Gs6 tr5 => h_Kv ?_)
  have Zs6 : ∀ i, s6 0 i = s0 0 i := fun i => (Gs6 0 i rfl).trans rfl
  have Fs6 : h_F (fun _ _ => true) s6 s0 := fun _ _ h => by cases h
  have es6_0 : s6 64 1 = s0 64 1 := (Gs6 64 1 rfl).trans rfl
  have es6_1 : s6 98 11 = s0 98 11 := (Gs6 98 11 rfl).trans rfl
  have es6_2 : s6 64 4 = s0 64 4 := (Gs6 64 4 rfl).trans rfl
  have es6_3 : s6 98 16 = s0 98 16 := (Gs6 98 16 rfl).trans rfl
  have es6_4 : s6 90 2 = s0 90 2 := (Gs6 90 2 rfl).trans rfl
  have es6_5 : s6 98 29 = s0 98 29 := (Gs6 98 29 rfl).trans rfl
  have es6_6 : s6 63 2 = s0 63 2 := (Gs6 63 2 rfl).trans rfl
  refine h_pop (pc' := 586) rfl rfl rfl ?_
  refine h_aload_n (pc' := 587) rfl rfl rfl ?_
  refine h_aload_n (pc' := 588) rfl rfl rfl ?_
  refine h_iload_n (pc' := 589) rfl rfl rfl ?_
  refine h_iconst (pc' := 590) (x := (Int32.ofInt 1)) rfl rfl rfl ?_
  refine h_iadd (pc' := 591) rfl rfl hy3 ci_1 rfl (by omega) (by omega) (fun z7 hz7 => ?_)
  refine h_iald (pc' := 592) (v := s0 0 (b3 + 1)) rfl rfl rfl hz7 (by omega) (by omega) (Zs6 _) (fun z8 hz8 => ?_)
  have tz8 := h_rgv hz8
  refine h_aload_n (pc' := 593) rfl rfl rfl ?_
  refine h_iload_n (pc' := 594) rfl rfl rfl ?_
  refine h_iconst (pc' := 595) (x := (Int32.ofInt 2)) rfl rfl rfl ?_
  refine h_iadd (pc' := 596) rfl rfl hy3 ci_2 rfl (by omega) (by omega) (fun z9 hz9 => ?_)
  refine h_iald (pc' := 597) (v := s0 0 (b3 + 2)) rfl rfl rfl hz9 (by omega) (by omega) (Zs6 _) (fun z10 hz10 => ?_)
  have tz10 := h_rgv hz10
  refine h_call (sp := false) (pc' := 600) (M := [(0, .ref 98), (1, .int z8), (2, .int z10)]) rfl rfl rfl rfl rfl rfl rfl rfl ?_
  refine w_182_98 _ Is6 z8 _ hz8 z10 _ hz10 (fun r11 br11 hr11 s12 Is12 Gs12 tr11 => h_Kv ?_)
  have Zs12 : ∀ i, s12 0 i = s0 0 i := fun i => (Gs12 0 i rfl).trans (Zs6 i)
  have Fs12 : h_F (fun _ _ => true) s12 s0 := fun _ _ h => by cases h
  have es12_0 : s12 64 1 = s0 64 1 := (Gs12 64 1 rfl).trans es6_0
  have es12_1 : s12 98 11 = s0 98 11 := (Gs12 98 11 rfl).trans es6_1
  have es12_2 : s12 64 4 = s0 64 4 := (Gs12 64 4 rfl).trans es6_2
  have es12_3 : s12 98 16 = s0 98 16 := (Gs12 98 16 rfl).trans es6_3
  have es12_4 : s12 90 2 = s0 90 2 := (Gs12 90 2 rfl).trans es6_4
  have es12_5 : s12 98 29 = s0 98 29 := (Gs12 98 29 rfl).trans es6_5
  have es12_6 : s12 63 2 = s0 63 2 := (Gs12 63 2 rfl).trans es6_6
  clear es6_0 es6_1 es6_2 es6_3 es6_4 es6_5 es6_6
  refine h_pop (pc' := 601) rfl rfl rfl ?_
  refine h_goto (pc' := 1441) rfl rfl ?_
  exact kk _ Is12 (by first | exact d_tape.le j0 (Int.le_antisymm (by omega) (by omega)) (by omega) (fun j => (Gs12 65 j rfl).trans ((Gs6 65 j rfl))) (fun j => (Gs12 102 j rfl).trans ((Gs6 102 j rfl))) | (exfalso; omega)) (Int.le_antisymm (by omega) (by omega)) (Int.le_antisymm (by omega) (by omega))
set_option maxHeartbeats 100000000 in
theorem g_case_604 {ns : Nat} (hns : ns ≤ 320) (s0 : h_S) (I0 : h_I s0) (j0 : d_tape s0 s0) (j1 : s0 64 4 = s0 98 16) (j2 : s0 90 2 = s0 98 29) (y3 : Int32) (b3 : Int) (hy3 : y3.toInt = b3) (hr : 0 ≤ b3 ∧ b3 + 5 ≤ ns) {Q : Option Value → h_S → Prop} (kk : ∀ τ, h_I τ → (d_tape τ τ) → (τ 64 4 = τ 98 16) → (τ 90 2 = τ 98 29) → h_T g_P (g_Y ns) 225 1441 [(0, .ref 0), (1, .ref 9), (2, .ref 98), (3, .int y3)] [] τ Q) : h_T g_P (g_Y ns) 225 604 [(0, .ref 0), (1, .ref 9), (2, .ref 98), (3, .int y3)] [] s0 Q := by
  have F0_ : h_F (fun _ _ => true) s0 s0 := h_F.rf
  have j0_ := j0.2
  have i0 := tf_64_1 I0
  have i1 := tf_98_11 I0
  have i2 := tf_64_4 I0
  have i3 := tf_98_16 I0
  have i4 := tf_90_2 I0
  have i5 := tf_98_29 I0
  have i6 := tf_63_2 I0
  refine h_aload_n (pc' := 605) rfl rfl rfl ?_
  refine h_aload_n (pc' := 606) rfl rfl rfl ?_
  refine h_iload_n (pc' := 607) rfl rfl rfl ?_
  refine h_iconst (pc' := 608) (x := (Int32.ofInt 1)) rfl rfl rfl ?_
  refine h_iadd (pc' := 609) rfl rfl hy3 ci_1 rfl (by omega) (by omega) (fun z1 hz1 => ?_)
  refine h_iald (pc' := 610) (v := s0 0 (b3 + 1)) rfl rfl rfl hz1 (by omega) (by omega) rfl (fun z2 hz2 => ?_)
  have tz2 := h_rgv hz2
  refine h_aload_n (pc' := 611) rfl rfl rfl ?_
  refine h_iload_n (pc' := 612) rfl rfl rfl ?_
  refine h_iconst (pc' := 613) (x := (Int32.ofInt 2)) rfl rfl rfl ?_
  refine h_iadd (pc' := 614) rfl rfl hy3 ci_2 rfl (by omega) (by omega) (fun z3 hz3 => ?_)
  refine h_iald (pc' := 615) (v := s0 0 (b3 + 2)) rfl rfl rfl hz3 (by omega) (by omega) rfl (fun z4 hz4 => ?_)
  have tz4 := h_rgv hz4
  refine h_call (sp := false) (pc' := 618) (M := [(0, .ref 9), (1, .int z2), (2, .int z4)]) rfl rfl rfl rfl rfl rfl rfl rfl ?_
  refine w_96_9 _ I0 z2 _ hz2 z4 _ hz4 (fun r5 br5 hr5 s6 Is6 Gs6 tr5 => h_Kv ?_)
  have Zs6 : ∀ i, s6 0 i = s0 0 i := fun i => (Gs6 0 i rfl).trans rfl
  have Fs6 : h_F (fun _ _ => true) s6 s0 := fun _ _ h => by cases h
  have es6_0 : s6 64 1 = s0 64 1 := (Gs6 64 1 rfl).trans rfl
  have es6_1 : s6 98 11 = s0 98 11 := (Gs6 98 11 rfl).trans rfl
  have es6_2 : s6 64 4 = s0 64 4 := (Gs6 64 4 rfl).trans rfl
  have es6_3 : s6 98 16 = s0 98 16 := (Gs6 98 16 rfl).trans rfl
  have es6_4 : s6 90 2 = s0 90 2 := (Gs6 90 2 rfl).trans rfl
  have es6_5 : s6 98 29 = s0 98 29 := (Gs6 98 29 rfl).trans rfl
  have es6_6 : s6 63 2 = s0 63 2 := (Gs6 63 2 rfl).trans rfl
  refine h_pop (pc' := 619) rfl rfl rfl ?_
  refine h_aload_n (pc' := 620) rfl rfl rfl ?_
  refine h_aload_n (pc' := 621) rfl rfl rfl ?_
  refine h_iload_n (pc' := 622) rfl rfl rfl ?_
  refine h_iconst (pc' := 623) (x := (Int32.ofInt 1)) rfl rfl rfl ?_
  refine h_iadd (pc' := 624) rfl rfl hy3 ci_1 rfl (by omega) (by omega) (fun z7 hz7 => ?_)
  refine h_iald (pc' := 625) (v := s0 0 (b3 + 1)) rfl rfl rfl hz7 (by omega) (by omega) (Zs6 _) (fun z8 hz8 => ?_)
  have tz8 := h_rgv hz8
  refine h_aload_n (pc' := 626) rfl rfl rfl ?_
  refine h_iload_n (pc' := 627) rfl rfl rfl ?_
  refine h_iconst (pc' := 628) (x := (Int32.ofInt 2)) rfl rfl rfl ?_
  refine h_iadd (pc' := 629) rfl rfl hy3 ci_2 rfl (by omega) (by omega) (fun z9 hz9 => ?_)
  refine h_iald (pc' := 630) (v := s0 0 (b3 + 2)) rfl rfl rfl hz9 (by omega) (by omega) (Zs6 _) (fun z10 hz10 => ?_)
  have tz10 := h_rgv hz10
  refine h_call (sp := false) (pc' := 633) (M := [(0, .ref 98), (1, .int z8), (2, .int z10)]) rfl rfl rfl rfl rfl rfl rfl rfl ?_
  refine v_undo _ Is6 z8 _ hz8 z10 _ hz10 (fun r11 br11 hr11 s12 Is12 Gs12 => h_Kv ?_)
  have Zs12 : ∀ i, s12 0 i = s0 0 i := fun i => (Gs12 0 i rfl).trans (Zs6 i)
  have Fs12 : h_F (fun _ _ => true) s12 s0 := fun _ _ h => by cases h
  have es12_0 : s12 64 1 = s0 64 1 := (Gs12 64 1 rfl).trans es6_0
  have es12_1 : s12 98 11 = s0 98 11 := (Gs12 98 11 rfl).trans es6_1
  have es12_2 : s12 64 4 = s0 64 4 := (Gs12 64 4 rfl).trans es6_2
  have es12_3 : s12 98 16 = s0 98 16 := (Gs12 98 16 rfl).trans es6_3
  have es12_4 : s12 90 2 = s0 90 2 := (Gs12 90 2 rfl).trans es6_4
  have es12_5 : s12 98 29 = s0 98 29 := (Gs12 98 29 rfl).trans es6_5
  have es12_6 : s12 63 2 = s0 63 2 := (Gs12 63 2 rfl).trans es6_6
  clear es6_0 es6_1 es6_2 es6_3 es6_4 es6_5 es6_6
  refine h_pop (pc' := 634) rfl rfl rfl ?_
  refine h_goto (pc' := 1441) rfl rfl ?_
  exact kk _ Is12 (by first | exact d_tape.le j0 (Int.le_antisymm (by omega) (by omega)) (by omega) (fun j => (Gs12 65 j rfl).trans ((Gs6 65 j rfl))) (fun j => (Gs12 102 j rfl).trans ((Gs6 102 j rfl))) | (exfalso; omega)) (Int.le_antisymm (by omega) (by omega)) (Int.le_antisymm (by omega) (by omega))
set_option maxHeartbeats 100000000 in
theorem g_case_637 {ns : Nat} (hns : ns ≤ 320) (s0 : h_S) (I0 : h_I s0) (j0 : d_tape s0 s0) (j1 : s0 64 4 = s0 98 16) (j2 : s0 90 2 = s0 98 29) (y3 : Int32) (b3 : Int) (hy3 : y3.toInt = b3) (hr : 0 ≤ b3 ∧ b3 + 5 ≤ ns) {Q : Option Value → h_S → Prop} (kk : ∀ τ, h_I τ → (d_tape τ τ) → (τ 64 4 = τ 98 16) → (τ 90 2 = τ 98 29) → h_T g_P (g_Y ns) 225 1441 [(0, .ref 0), (1, .ref 9), (2, .ref 98), (3, .int y3)] [] τ Q) : h_T g_P (g_Y ns) 225 637 [(0, .ref 0), (1, .ref 9), (2, .ref 98), (3, .int y3)] [] s0 Q := by
  have F0_ : h_F (fun _ _ => true) s0 s0 := h_F.rf
  have j0_ := j0.2
  have i0 := tf_64_1 I0
  have i1 := tf_98_11 I0
  have i2 := tf_64_4 I0
  have i3 := tf_98_16 I0
  have i4 := tf_90_2 I0
  have i5 := tf_98_29 I0
  have i6 := tf_63_2 I0
  refine h_aload_n (pc' := 638) rfl rfl rfl ?_
  refine h_aload_n (pc' := 639) rfl rfl rfl ?_
  refine h_iload_n (pc' := 640) rfl rfl rfl ?_
  refine h_iconst (pc' := 641) (x := (Int32.ofInt 1)) rfl rfl rfl ?_
  refine h_iadd (pc' := 642) rfl rfl hy3 ci_1 rfl (by omega) (by omega) (fun z1 hz1 => ?_)
  refine h_iald (pc' := 643) (v := s0 0 (b3 + 1)) rfl rfl rfl hz1 (by omega) (by omega) rfl (fun z2 hz2 => ?_)
  have tz2 := h_rgv hz2
  refine h_aload_n (pc' := 644) rfl rfl rfl ?_
  refine h_iload_n (pc' := 645) rfl rfl rfl ?_
  refine h_iconst (pc' := 646) (x := (Int32.ofInt 2)) rfl rfl rfl ?_
  refine h_iadd (pc' := 647) rfl rfl hy3 ci_2 rfl (by omega) (by omega) (fun z3 hz3 => ?_)
  refine h_iald (pc' := 648) (v := s0 0 (b3 + 2)) rfl rfl rfl hz3 (by omega) (by omega) rfl (fun z4 hz4 => ?_)
  have tz4 := h_rgv hz4
  refine h_aload_n (pc' := 649) rfl rfl rfl ?_
  refine h_iload_n (pc' := 650) rfl rfl rfl ?_
  refine h_iconst (pc' := 651) (x := (Int32.ofInt 3)) rfl rfl rfl ?_
  refine h_iadd (pc' := 652) rfl rfl hy3 ci_3 rfl (by omega) (by omega) (fun z5 hz5 => ?_)
  refine h_iald (pc' := 653) (v := s0 0 (b3 + 3)) rfl rfl rfl hz5 (by omega) (by omega) rfl (fun z6 hz6 => ?_)
  have tz6 := h_rgv hz6
  refine h_call (sp := false) (pc' := 656) (M := [(0, .ref 9), (1, .int z2), (2, .int z4), (3, .int z6)]) rfl rfl rfl rfl rfl rfl rfl rfl ?_
  refine w_97_9 _ I0 z2 _ hz2 z4 _ hz4 z6 _ hz6 (fun r7 br7 hr7 s8 Is8 Gs8 tr7 => h_Kv ?_)
  have Zs8 : ∀ i, s8 0 i = s0 0 i := fun i => (Gs8 0 i rfl).trans rfl
  have Fs8 : h_F (fun _ _ => true) s8 s0 := fun _ _ h => by cases h
  have es8_0 : s8 64 1 = s0 64 1 := (Gs8 64 1 rfl).trans rfl
  have es8_1 : s8 98 11 = s0 98 11 := (Gs8 98 11 rfl).trans rfl
  have es8_2 : s8 64 4 = s0 64 4 := (Gs8 64 4 rfl).trans rfl
  have es8_3 : s8 98 16 = s0 98 16 := (Gs8 98 16 rfl).trans rfl
  have es8_4 : s8 90 2 = s0 90 2 := (Gs8 90 2 rfl).trans rfl
  have es8_5 : s8 98 29 = s0 98 29 := (Gs8 98 29 rfl).trans rfl
  have es8_6 : s8 63 2 = s0 63 2 := (Gs8 63 2 rfl).trans rfl
  refine h_pop (pc' := 657) rfl rfl rfl ?_
  refine h_aload_n (pc' := 658) rfl rfl rfl ?_
  refine h_aload_n (pc' := 659) rfl rfl rfl ?_
  refine h_iload_n (pc' := 660) rfl rfl rfl ?_
  refine h_iconst (pc' := 661) (x := (Int32.ofInt 1)) rfl rfl rfl ?_
  refine h_iadd (pc' := 662) rfl rfl hy3 ci_1 rfl (by omega) (by omega) (fun z9 hz9 => ?_)
  refine h_iald (pc' := 663) (v := s0 0 (b3 + 1)) rfl rfl rfl hz9 (by omega) (by omega) (Zs8 _) (fun z10 hz10 => ?_)
  have tz10 := h_rgv hz10
  refine h_aload_n (pc' := 664) rfl rfl rfl ?_
  refine h_iload_n (pc' := 665) rfl rfl rfl ?_
  refine h_iconst (pc' := 666) (x := (Int32.ofInt 2)) rfl rfl rfl ?_
  refine h_iadd (pc' := 667) rfl rfl hy3 ci_2 rfl (by omega) (by omega) (fun z11 hz11 => ?_)
  refine h_iald (pc' := 668) (v := s0 0 (b3 + 2)) rfl rfl rfl hz11 (by omega) (by omega) (Zs8 _) (fun z12 hz12 => ?_)
  have tz12 := h_rgv hz12
  refine h_aload_n (pc' := 669) rfl rfl rfl ?_
  refine h_iload_n (pc' := 670) rfl rfl rfl ?_
  refine h_iconst (pc' := 671) (x := (Int32.ofInt 3)) rfl rfl rfl ?_
  refine h_iadd (pc' := 672) rfl rfl hy3 ci_3 rfl (by omega) (by omega) (fun z13 hz13 => ?_)
  refine h_iald (pc' := 673) (v := s0 0 (b3 + 3)) rfl rfl rfl hz13 (by omega) (by omega) (Zs8 _) (fun z14 hz14 => ?_)
  have tz14 := h_rgv hz14
  refine h_call (sp := false) (pc' := 676) (M := [(0, .ref 98), (1, .int z10), (2, .int z12), (3, .int z14)]) rfl rfl rfl rfl rfl rfl rfl rfl ?_
  refine w_184_98 _ Is8 z10 _ hz10 z12 _ hz12 z14 _ hz14 (fun r15 br15 hr15 s16 Is16 Gs16 tr15 => h_Kv ?_)
  have Zs16 : ∀ i, s16 0 i = s0 0 i := fun i => (Gs16 0 i rfl).trans (Zs8 i)
  have Fs16 : h_F (fun _ _ => true) s16 s0 := fun _ _ h => by cases h
  have es16_0 : s16 64 1 = s0 64 1 := (Gs16 64 1 rfl).trans es8_0
  have es16_1 : s16 98 11 = s0 98 11 := (Gs16 98 11 rfl).trans es8_1
  have es16_2 : s16 64 4 = s0 64 4 := (Gs16 64 4 rfl).trans es8_2
  have es16_3 : s16 98 16 = s0 98 16 := (Gs16 98 16 rfl).trans es8_3
  have es16_4 : s16 90 2 = s0 90 2 := (Gs16 90 2 rfl).trans es8_4
  have es16_5 : s16 98 29 = s0 98 29 := (Gs16 98 29 rfl).trans es8_5
  have es16_6 : s16 63 2 = s0 63 2 := (Gs16 63 2 rfl).trans es8_6
  clear es8_0 es8_1 es8_2 es8_3 es8_4 es8_5 es8_6
  refine h_pop (pc' := 677) rfl rfl rfl ?_
  refine h_goto (pc' := 1441) rfl rfl ?_
  exact kk _ Is16 (by first | exact d_tape.le j0 (Int.le_antisymm (by omega) (by omega)) (by omega) (fun j => (Gs16 65 j rfl).trans ((Gs8 65 j rfl))) (fun j => (Gs16 102 j rfl).trans ((Gs8 102 j rfl))) | (exfalso; omega)) (Int.le_antisymm (by omega) (by omega)) (Int.le_antisymm (by omega) (by omega))
set_option maxHeartbeats 100000000 in
theorem g_case_680 {ns : Nat} (hns : ns ≤ 320) (s0 : h_S) (I0 : h_I s0) (j0 : d_tape s0 s0) (j1 : s0 64 4 = s0 98 16) (j2 : s0 90 2 = s0 98 29) (y3 : Int32) (b3 : Int) (hy3 : y3.toInt = b3) (hr : 0 ≤ b3 ∧ b3 + 5 ≤ ns) {Q : Option Value → h_S → Prop} (kk : ∀ τ, h_I τ → (d_tape τ τ) → (τ 64 4 = τ 98 16) → (τ 90 2 = τ 98 29) → h_T g_P (g_Y ns) 225 1441 [(0, .ref 0), (1, .ref 9), (2, .ref 98), (3, .int y3)] [] τ Q) : h_T g_P (g_Y ns) 225 680 [(0, .ref 0), (1, .ref 9), (2, .ref 98), (3, .int y3)] [] s0 Q := by
  have F0_ : h_F (fun _ _ => true) s0 s0 := h_F.rf
  have j0_ := j0.2
  have i0 := tf_64_1 I0
  have i1 := tf_98_11 I0
  have i2 := tf_64_4 I0
  have i3 := tf_98_16 I0
  have i4 := tf_90_2 I0
  have i5 := tf_98_29 I0
  have i6 := tf_63_2 I0
  refine h_aload_n (pc' := 681) rfl rfl rfl ?_
  refine h_aload_n (pc' := 682) rfl rfl rfl ?_
  refine h_iload_n (pc' := 683) rfl rfl rfl ?_
  refine h_iconst (pc' := 684) (x := (Int32.ofInt 1)) rfl rfl rfl ?_
  refine h_iadd (pc' := 685) rfl rfl hy3 ci_1 rfl (by omega) (by omega) (fun z1 hz1 => ?_)
  refine h_iald (pc' := 686) (v := s0 0 (b3 + 1)) rfl rfl rfl hz1 (by omega) (by omega) rfl (fun z2 hz2 => ?_)
  have tz2 := h_rgv hz2
  refine h_call (sp := false) (pc' := 689) (M := [(0, .ref 9), (1, .int z2)]) rfl rfl rfl rfl rfl rfl rfl rfl ?_
  refine w_98_9 _ I0 z2 _ hz2 (fun r3 br3 hr3 s4 Is4 Gs4 tr3 => h_Kv ?_)
  have Zs4 : ∀ i, s4 0 i = s0 0 i := fun i => (Gs4 0 i rfl).trans rfl
  have Fs4 : h_F (fun _ _ => true) s4 s0 := fun _ _ h => by cases h
  have es4_0 : s4 64 1 = s0 64 1 := (Gs4 64 1 rfl).trans rfl
  have es4_1 : s4 98 11 = s0 98 11 := (Gs4 98 11 rfl).trans rfl
  have es4_2 : s4 64 4 = s0 64 4 := (Gs4 64 4 rfl).trans rfl
  have es4_3 : s4 98 16 = s0 98 16 := (Gs4 98 16 rfl).trans rfl
  have es4_4 : s4 90 2 = s0 90 2 := (Gs4 90 2 rfl).trans rfl
  have es4_5 : s4 98 29 = s0 98 29 := (Gs4 98 29 rfl).trans rfl
  have es4_6 : s4 63 2 = s0 63 2 := (Gs4 63 2 rfl).trans rfl
  refine h_pop (pc' := 690) rfl rfl rfl ?_
  refine h_aload_n (pc' := 691) rfl rfl rfl ?_
  refine h_aload_n (pc' := 692) rfl rfl rfl ?_
  refine h_iload_n (pc' := 693) rfl rfl rfl ?_
  refine h_iconst (pc' := 694) (x := (Int32.ofInt 1)) rfl rfl rfl ?_
  refine h_iadd (pc' := 695) rfl rfl hy3 ci_1 rfl (by omega) (by omega) (fun z5 hz5 => ?_)
  refine h_iald (pc' := 696) (v := s0 0 (b3 + 1)) rfl rfl rfl hz5 (by omega) (by omega) (Zs4 _) (fun z6 hz6 => ?_)
  have tz6 := h_rgv hz6
  refine h_call (sp := false) (pc' := 699) (M := [(0, .ref 98), (1, .int z6)]) rfl rfl rfl rfl rfl rfl rfl rfl ?_
  refine w_185_98 _ Is4 z6 _ hz6 (fun r7 br7 hr7 s8 Is8 Gs8 tr7 => h_Kv ?_)
  have Zs8 : ∀ i, s8 0 i = s0 0 i := fun i => (Gs8 0 i rfl).trans (Zs4 i)
  have Fs8 : h_F (fun _ _ => true) s8 s0 := fun _ _ h => by cases h
  have es8_0 : s8 64 1 = s0 64 1 := (Gs8 64 1 rfl).trans es4_0
  have es8_1 : s8 98 11 = s0 98 11 := (Gs8 98 11 rfl).trans es4_1
  have es8_2 : s8 64 4 = s0 64 4 := (Gs8 64 4 rfl).trans es4_2
  have es8_3 : s8 98 16 = s0 98 16 := (Gs8 98 16 rfl).trans es4_3
  have es8_4 : s8 90 2 = s0 90 2 := (Gs8 90 2 rfl).trans es4_4
  have es8_5 : s8 98 29 = s0 98 29 := (Gs8 98 29 rfl).trans es4_5
  have es8_6 : s8 63 2 = s0 63 2 := (Gs8 63 2 rfl).trans es4_6
  clear es4_0 es4_1 es4_2 es4_3 es4_4 es4_5 es4_6
  refine h_pop (pc' := 700) rfl rfl rfl ?_
  refine h_goto (pc' := 1441) rfl rfl ?_
  exact kk _ Is8 (by first | exact d_tape.le j0 (Int.le_antisymm (by omega) (by omega)) (by omega) (fun j => (Gs8 65 j rfl).trans ((Gs4 65 j rfl))) (fun j => (Gs8 102 j rfl).trans ((Gs4 102 j rfl))) | (exfalso; omega)) (Int.le_antisymm (by omega) (by omega)) (Int.le_antisymm (by omega) (by omega))
set_option maxHeartbeats 100000000 in
theorem g_case_703 {ns : Nat} (hns : ns ≤ 320) (s0 : h_S) (I0 : h_I s0) (j0 : d_tape s0 s0) (j1 : s0 64 4 = s0 98 16) (j2 : s0 90 2 = s0 98 29) (y3 : Int32) (b3 : Int) (hy3 : y3.toInt = b3) (hr : 0 ≤ b3 ∧ b3 + 5 ≤ ns) {Q : Option Value → h_S → Prop} (kk : ∀ τ, h_I τ → (d_tape τ τ) → (τ 64 4 = τ 98 16) → (τ 90 2 = τ 98 29) → h_T g_P (g_Y ns) 225 1441 [(0, .ref 0), (1, .ref 9), (2, .ref 98), (3, .int y3)] [] τ Q) : h_T g_P (g_Y ns) 225 703 [(0, .ref 0), (1, .ref 9), (2, .ref 98), (3, .int y3)] [] s0 Q := by
  have F0_ : h_F (fun _ _ => true) s0 s0 := h_F.rf
  have j0_ := j0.2
  have i0 := tf_64_1 I0
  have i1 := tf_98_11 I0
  have i2 := tf_64_4 I0
  have i3 := tf_98_16 I0
  have i4 := tf_90_2 I0
  have i5 := tf_98_29 I0
  have i6 := tf_63_2 I0
  refine h_aload_n (pc' := 704) rfl rfl rfl ?_
  refine h_aload_n (pc' := 705) rfl rfl rfl ?_
  refine h_iload_n (pc' := 706) rfl rfl rfl ?_
  refine h_iconst (pc' := 707) (x := (Int32.ofInt 1)) rfl rfl rfl ?_
  refine h_iadd (pc' := 708) rfl rfl hy3 ci_1 rfl (by omega) (by omega) (fun z1 hz1 => ?_)
  refine h_iald (pc' := 709) (v := s0 0 (b3 + 1)) rfl rfl rfl hz1 (by omega) (by omega) rfl (fun z2 hz2 => ?_)
  have tz2 := h_rgv hz2
  refine h_call (sp := false) (pc' := 712) (M := [(0, .ref 9), (1, .int z2)]) rfl rfl rfl rfl rfl rfl rfl rfl ?_
  refine w_99_9 _ I0 z2 _ hz2 (fun r3 br3 hr3 s4 Is4 Gs4 tr3 => h_Kv ?_)
  have Zs4 : ∀ i, s4 0 i = s0 0 i := fun i => (Gs4 0 i rfl).trans rfl
  have Fs4 : h_F (fun _ _ => true) s4 s0 := fun _ _ h => by cases h
  have es4_0 : s4 64 1 = s0 64 1 := (Gs4 64 1 rfl).trans rfl
  have es4_1 : s4 98 11 = s0 98 11 := (Gs4 98 11 rfl).trans rfl
  have es4_2 : s4 64 4 = s0 64 4 := (Gs4 64 4 rfl).trans rfl
  have es4_3 : s4 98 16 = s0 98 16 := (Gs4 98 16 rfl).trans rfl
  have es4_4 : s4 90 2 = s0 90 2 := (Gs4 90 2 rfl).trans rfl
  have es4_5 : s4 98 29 = s0 98 29 := (Gs4 98 29 rfl).trans rfl
  have es4_6 : s4 63 2 = s0 63 2 := (Gs4 63 2 rfl).trans rfl
  refine h_pop (pc' := 713) rfl rfl rfl ?_
  refine h_aload_n (pc' := 714) rfl rfl rfl ?_
  refine h_aload_n (pc' := 715) rfl rfl rfl ?_
  refine h_iload_n (pc' := 716) rfl rfl rfl ?_
  refine h_iconst (pc' := 717) (x := (Int32.ofInt 1)) rfl rfl rfl ?_
  refine h_iadd (pc' := 718) rfl rfl hy3 ci_1 rfl (by omega) (by omega) (fun z5 hz5 => ?_)
  refine h_iald (pc' := 719) (v := s0 0 (b3 + 1)) rfl rfl rfl hz5 (by omega) (by omega) (Zs4 _) (fun z6 hz6 => ?_)
  have tz6 := h_rgv hz6
  refine h_call (sp := false) (pc' := 722) (M := [(0, .ref 98), (1, .int z6)]) rfl rfl rfl rfl rfl rfl rfl rfl ?_
  refine w_186_98 _ Is4 z6 _ hz6 (fun r7 br7 hr7 s8 Is8 Gs8 tr7 => h_Kv ?_)
  have Zs8 : ∀ i, s8 0 i = s0 0 i := fun i => (Gs8 0 i rfl).trans (Zs4 i)
  have Fs8 : h_F (fun _ _ => true) s8 s0 := fun _ _ h => by cases h
  have es8_0 : s8 64 1 = s0 64 1 := (Gs8 64 1 rfl).trans es4_0
  have es8_1 : s8 98 11 = s0 98 11 := (Gs8 98 11 rfl).trans es4_1
  have es8_2 : s8 64 4 = s0 64 4 := (Gs8 64 4 rfl).trans es4_2
  have es8_3 : s8 98 16 = s0 98 16 := (Gs8 98 16 rfl).trans es4_3
  have es8_4 : s8 90 2 = s0 90 2 := (Gs8 90 2 rfl).trans es4_4
  have es8_5 : s8 98 29 = s0 98 29 := (Gs8 98 29 rfl).trans es4_5
  have es8_6 : s8 63 2 = s0 63 2 := (Gs8 63 2 rfl).trans es4_6
  clear es4_0 es4_1 es4_2 es4_3 es4_4 es4_5 es4_6
  refine h_pop (pc' := 723) rfl rfl rfl ?_
  refine h_goto (pc' := 1441) rfl rfl ?_
  exact kk _ Is8 (by first | exact d_tape.le j0 (Int.le_antisymm (by omega) (by omega)) (by omega) (fun j => (Gs8 65 j rfl).trans ((Gs4 65 j rfl))) (fun j => (Gs8 102 j rfl).trans ((Gs4 102 j rfl))) | (exfalso; omega)) (Int.le_antisymm (by omega) (by omega)) (Int.le_antisymm (by omega) (by omega))
set_option maxHeartbeats 100000000 in
theorem g_case_726 {ns : Nat} (hns : ns ≤ 320) (s0 : h_S) (I0 : h_I s0) (j0 : d_tape s0 s0) (j1 : s0 64 4 = s0 98 16) (j2 : s0 90 2 = s0 98 29) (y3 : Int32) (b3 : Int) (hy3 : y3.toInt = b3) (hr : 0 ≤ b3 ∧ b3 + 5 ≤ ns) {Q : Option Value → h_S → Prop} (kk : ∀ τ, h_I τ → (d_tape τ τ) → (τ 64 4 = τ 98 16) → (τ 90 2 = τ 98 29) → h_T g_P (g_Y ns) 225 1441 [(0, .ref 0), (1, .ref 9), (2, .ref 98), (3, .int y3)] [] τ Q) : h_T g_P (g_Y ns) 225 726 [(0, .ref 0), (1, .ref 9), (2, .ref 98), (3, .int y3)] [] s0 Q := by
  have F0_ : h_F (fun _ _ => true) s0 s0 := h_F.rf
  have j0_ := j0.2
  have i0 := tf_64_1 I0
  have i1 := tf_98_11 I0
  have i2 := tf_64_4 I0
  have i3 := tf_98_16 I0
  have i4 := tf_90_2 I0
  have i5 := tf_98_29 I0
  have i6 := tf_63_2 I0
  refine h_aload_n (pc' := 727) rfl rfl rfl ?_
  refine h_aload_n (pc' := 728) rfl rfl rfl ?_
  refine h_iload_n (pc' := 729) rfl rfl rfl ?_
  refine h_iconst (pc' := 730) (x := (Int32.ofInt 1)) rfl rfl rfl ?_
  refine h_iadd (pc' := 731) rfl rfl hy3 ci_1 rfl (by omega) (by omega) (fun z1 hz1 => ?_)
  refine h_iald (pc' := 732) (v := s0 0 (b3 + 1)) rfl rfl rfl hz1 (by omega) (by omega) rfl (fun z2 hz2 => ?_)
  have tz2 := h_rgv hz2
  refine h_aload_n (pc' := 733) rfl rfl rfl ?_
  refine h_iload_n (pc' := 734) rfl rfl rfl ?_
  refine h_iconst (pc' := 735) (x := (Int32.ofInt 2)) rfl rfl rfl ?_
  refine h_iadd (pc' := 736) rfl rfl hy3 ci_2 rfl (by omega) (by omega) (fun z3 hz3 => ?_)
  refine h_iald (pc' := 737) (v := s0 0 (b3 + 2)) rfl rfl rfl hz3 (by omega) (by omega) rfl (fun z4 hz4 => ?_)
  have tz4 := h_rgv hz4
  refine h_call (sp := false) (pc' := 740) (M := [(0, .ref 9), (1, .int z2), (2, .int z4)]) rfl rfl rfl rfl rfl rfl rfl rfl ?_
  refine w_100_9 _ I0 z2 _ hz2 z4 _ hz4 (fun r5 br5 hr5 s6 Is6 Gs6 tr5 => h_Kv ?_)
  have Zs6 : ∀ i, s6 0 i = s0 0 i := fun i => (Gs6 0 i rfl).trans rfl
  have Fs6 : h_F (fun _ _ => true) s6 s0 := fun _ _ h => by cases h
  have es6_0 : s6 64 1 = s0 64 1 := (Gs6 64 1 rfl).trans rfl
  have es6_1 : s6 98 11 = s0 98 11 := (Gs6 98 11 rfl).trans rfl
  have es6_2 : s6 64 4 = s0 64 4 := (Gs6 64 4 rfl).trans rfl
  have es6_3 : s6 98 16 = s0 98 16 := (Gs6 98 16 rfl).trans rfl
  have es6_4 : s6 90 2 = s0 90 2 := (Gs6 90 2 rfl).trans rfl
  have es6_5 : s6 98 29 = s0 98 29 := (Gs6 98 29 rfl).trans rfl
  have es6_6 : s6 63 2 = s0 63 2 := (Gs6 63 2 rfl).trans rfl
  refine h_pop (pc' := 741) rfl rfl rfl ?_
  refine h_aload_n (pc' := 742) rfl rfl rfl ?_
  refine h_aload_n (pc' := 743) rfl rfl rfl ?_
  refine h_iload_n (pc' := 744) rfl rfl rfl ?_
  refine h_iconst (pc' := 745) (x := (Int32.ofInt 1)) rfl rfl rfl ?_
  refine h_iadd (pc' := 746) rfl rfl hy3 ci_1 rfl (by omega) (by omega) (fun z7 hz7 => ?_)
  refine h_iald (pc' := 747) (v := s0 0 (b3 + 1)) rfl rfl rfl hz7 (by omega) (by omega) (Zs6 _) (fun z8 hz8 => ?_)
  have tz8 := h_rgv hz8
  refine h_aload_n (pc' := 748) rfl rfl rfl ?_
  refine h_iload_n (pc' := 749) rfl rfl rfl ?_
  refine h_iconst (pc' := 750) (x := (Int32.ofInt 2)) rfl rfl rfl ?_
  refine h_iadd (pc' := 751) rfl rfl hy3 ci_2 rfl (by omega) (by omega) (fun z9 hz9 => ?_)
  refine h_iald (pc' := 752) (v := s0 0 (b3 + 2)) rfl rfl rfl hz9 (by omega) (by omega) (Zs6 _) (fun z10 hz10 => ?_)
  have tz10 := h_rgv hz10
  refine h_call (sp := false) (pc' := 755) (M := [(0, .ref 98), (1, .int z8), (2, .int z10)]) rfl rfl rfl rfl rfl rfl rfl rfl ?_
  refine w_189_98 _ Is6 z8 _ hz8 z10 _ hz10 (fun r11 br11 hr11 s12 Is12 Gs12 tr11 => h_Kv ?_)
  have Zs12 : ∀ i, s12 0 i = s0 0 i := fun i => (Gs12 0 i rfl).trans (Zs6 i)
  have Fs12 : h_F (fun _ _ => true) s12 s0 := fun _ _ h => by cases h
  have es12_0 : s12 64 1 = s0 64 1 := (Gs12 64 1 rfl).trans es6_0
  have es12_1 : s12 98 11 = s0 98 11 := (Gs12 98 11 rfl).trans es6_1
  have es12_2 : s12 64 4 = s0 64 4 := (Gs12 64 4 rfl).trans es6_2
  have es12_3 : s12 98 16 = s0 98 16 := (Gs12 98 16 rfl).trans es6_3
  have es12_4 : s12 90 2 = s0 90 2 := (Gs12 90 2 rfl).trans es6_4
  have es12_5 : s12 98 29 = s0 98 29 := (Gs12 98 29 rfl).trans es6_5
  have es12_6 : s12 63 2 = s0 63 2 := (Gs12 63 2 rfl).trans es6_6
  clear es6_0 es6_1 es6_2 es6_3 es6_4 es6_5 es6_6
  refine h_pop (pc' := 756) rfl rfl rfl ?_
  refine h_goto (pc' := 1441) rfl rfl ?_
  exact kk _ Is12 (by first | exact d_tape.le j0 (Int.le_antisymm (by omega) (by omega)) (by omega) (fun j => (Gs12 65 j rfl).trans ((Gs6 65 j rfl))) (fun j => (Gs12 102 j rfl).trans ((Gs6 102 j rfl))) | (exfalso; omega)) (Int.le_antisymm (by omega) (by omega)) (Int.le_antisymm (by omega) (by omega))
set_option maxHeartbeats 100000000 in
theorem g_case_759 {ns : Nat} (hns : ns ≤ 320) (s0 : h_S) (I0 : h_I s0) (j0 : d_tape s0 s0) (j1 : s0 64 4 = s0 98 16) (j2 : s0 90 2 = s0 98 29) (y3 : Int32) (b3 : Int) (hy3 : y3.toInt = b3) (hr : 0 ≤ b3 ∧ b3 + 5 ≤ ns) {Q : Option Value → h_S → Prop} (kk : ∀ τ, h_I τ → (d_tape τ τ) → (τ 64 4 = τ 98 16) → (τ 90 2 = τ 98 29) → h_T g_P (g_Y ns) 225 1441 [(0, .ref 0), (1, .ref 9), (2, .ref 98), (3, .int y3)] [] τ Q) : h_T g_P (g_Y ns) 225 759 [(0, .ref 0), (1, .ref 9), (2, .ref 98), (3, .int y3)] [] s0 Q := by
  have F0_ : h_F (fun _ _ => true) s0 s0 := h_F.rf
  have j0_ := j0.2
  have i0 := tf_64_1 I0
  have i1 := tf_98_11 I0
  have i2 := tf_64_4 I0
  have i3 := tf_98_16 I0
  have i4 := tf_90_2 I0
  have i5 := tf_98_29 I0
  have i6 := tf_63_2 I0
  refine h_aload_n (pc' := 760) rfl rfl rfl ?_
  refine h_aload_n (pc' := 761) rfl rfl rfl ?_
  refine h_iload_n (pc' := 762) rfl rfl rfl ?_
  refine h_iconst (pc' := 763) (x := (Int32.ofInt 1)) rfl rfl rfl ?_
  refine h_iadd (pc' := 764) rfl rfl hy3 ci_1 rfl (by omega) (by omega) (fun z1 hz1 => ?_)
  refine h_iald (pc' := 765) (v := s0 0 (b3 + 1)) rfl rfl rfl hz1 (by omega) (by omega) rfl (fun z2 hz2 => ?_)
  have tz2 := h_rgv hz2
  refine h_call (sp := false) (pc' := 768) (M := [(0, .ref 9), (1, .int z2)]) rfl rfl rfl rfl rfl rfl rfl rfl ?_
  refine w_101_9 _ I0 z2 _ hz2 (fun r3 br3 hr3 s4 Is4 Gs4 => h_Kv ?_)
  have Zs4 : ∀ i, s4 0 i = s0 0 i := fun i => (Gs4 0 i rfl).trans rfl
  have Fs4 : h_F (fun _ _ => true) s4 s0 := fun _ _ h => by cases h
  have es4_0 : s4 64 1 = s0 64 1 := (Gs4 64 1 rfl).trans rfl
  have es4_1 : s4 98 11 = s0 98 11 := (Gs4 98 11 rfl).trans rfl
  have es4_2 : s4 64 4 = s0 64 4 := (Gs4 64 4 rfl).trans rfl
  have es4_3 : s4 98 16 = s0 98 16 := (Gs4 98 16 rfl).trans rfl
  have es4_4 : s4 90 2 = s0 90 2 := (Gs4 90 2 rfl).trans rfl
  have es4_5 : s4 98 29 = s0 98 29 := (Gs4 98 29 rfl).trans rfl
  have es4_6 : s4 63 2 = s0 63 2 := (Gs4 63 2 rfl).trans rfl
  refine h_pop (pc' := 769) rfl rfl rfl ?_
  refine h_aload_n (pc' := 770) rfl rfl rfl ?_
  refine h_aload_n (pc' := 771) rfl rfl rfl ?_
  refine h_iload_n (pc' := 772) rfl rfl rfl ?_
  refine h_iconst (pc' := 773) (x := (Int32.ofInt 1)) rfl rfl rfl ?_
  refine h_iadd (pc' := 774) rfl rfl hy3 ci_1 rfl (by omega) (by omega) (fun z5 hz5 => ?_)
  refine h_iald (pc' := 775) (v := s0 0 (b3 + 1)) rfl rfl rfl hz5 (by omega) (by omega) (Zs4 _) (fun z6 hz6 => ?_)
  have tz6 := h_rgv hz6
  refine h_call (sp := false) (pc' := 778) (M := [(0, .ref 98), (1, .int z6)]) rfl rfl rfl rfl rfl rfl rfl rfl ?_
  refine w_194_98 _ Is4 z6 _ hz6 (fun r7 br7 hr7 s8 Is8 Gs8 => h_Kv ?_)
  have Zs8 : ∀ i, s8 0 i = s0 0 i := fun i => (Gs8 0 i rfl).trans (Zs4 i)
  have Fs8 : h_F (fun _ _ => true) s8 s0 := fun _ _ h => by cases h
  have es8_0 : s8 64 1 = s0 64 1 := (Gs8 64 1 rfl).trans es4_0
  have es8_1 : s8 98 11 = s0 98 11 := (Gs8 98 11 rfl).trans es4_1
  have es8_2 : s8 64 4 = s0 64 4 := (Gs8 64 4 rfl).trans es4_2
  have es8_3 : s8 98 16 = s0 98 16 := (Gs8 98 16 rfl).trans es4_3
  have es8_4 : s8 90 2 = s0 90 2 := (Gs8 90 2 rfl).trans es4_4
  have es8_5 : s8 98 29 = s0 98 29 := (Gs8 98 29 rfl).trans es4_5
  have es8_6 : s8 63 2 = s0 63 2 := (Gs8 63 2 rfl).trans es4_6
  clear es4_0 es4_1 es4_2 es4_3 es4_4 es4_5 es4_6
  refine h_pop (pc' := 779) rfl rfl rfl ?_
  refine h_goto (pc' := 1441) rfl rfl ?_
  exact kk _ Is8 (by first | exact d_tape.le j0 (Int.le_antisymm (by omega) (by omega)) (by omega) (fun j => (Gs8 65 j rfl).trans ((Gs4 65 j rfl))) (fun j => (Gs8 102 j rfl).trans ((Gs4 102 j rfl))) | (exfalso; omega)) (Int.le_antisymm (by omega) (by omega)) (Int.le_antisymm (by omega) (by omega))
set_option maxHeartbeats 100000000 in
theorem g_case_782 {ns : Nat} (hns : ns ≤ 320) (s0 : h_S) (I0 : h_I s0) (j0 : d_tape s0 s0) (j1 : s0 64 4 = s0 98 16) (j2 : s0 90 2 = s0 98 29) (y3 : Int32) (b3 : Int) (hy3 : y3.toInt = b3) (hr : 0 ≤ b3 ∧ b3 + 5 ≤ ns) {Q : Option Value → h_S → Prop} (kk : ∀ τ, h_I τ → (d_tape τ τ) → (τ 64 4 = τ 98 16) → (τ 90 2 = τ 98 29) → h_T g_P (g_Y ns) 225 1441 [(0, .ref 0), (1, .ref 9), (2, .ref 98), (3, .int y3)] [] τ Q) : h_T g_P (g_Y ns) 225 782 [(0, .ref 0), (1, .ref 9), (2, .ref 98), (3, .int y3)] [] s0 Q := by
  have F0_ : h_F (fun _ _ => true) s0 s0 := h_F.rf
  have j0_ := j0.2
  have i0 := tf_64_1 I0
  have i1 := tf_98_11 I0
  have i2 := tf_64_4 I0
  have i3 := tf_98_16 I0
  have i4 := tf_90_2 I0
  have i5 := tf_98_29 I0
  have i6 := tf_63_2 I0
  refine h_aload_n (pc' := 783) rfl rfl rfl ?_
  refine h_aload_n (pc' := 784) rfl rfl rfl ?_
  refine h_iload_n (pc' := 785) rfl rfl rfl ?_
  refine h_iconst (pc' := 786) (x := (Int32.ofInt 1)) rfl rfl rfl ?_
  refine h_iadd (pc' := 787) rfl rfl hy3 ci_1 rfl (by omega) (by omega) (fun z1 hz1 => ?_)
  refine h_iald (pc' := 788) (v := s0 0 (b3 + 1)) rfl rfl rfl hz1 (by omega) (by omega) rfl (fun z2 hz2 => ?_)
  have tz2 := h_rgv hz2
  refine h_call (sp := false) (pc' := 791) (M := [(0, .ref 9), (1, .int z2)]) rfl rfl rfl rfl rfl rfl rfl rfl ?_
  refine w_102_9 _ I0 z2 _ hz2 (fun r3 br3 hr3 s4 Is4 Gs4 tr3 => h_Kv ?_)
  have Zs4 : ∀ i, s4 0 i = s0 0 i := fun i => (Gs4 0 i rfl).trans rfl
  have Fs4 : h_F (fun _ _ => true) s4 s0 := fun _ _ h => by cases h
  have es4_0 : s4 64 1 = s0 64 1 := (Gs4 64 1 rfl).trans rfl
  have es4_1 : s4 98 11 = s0 98 11 := (Gs4 98 11 rfl).trans rfl
  have es4_2 : s4 64 4 = s0 64 4 := (Gs4 64 4 rfl).trans rfl
  have es4_3 : s4 98 16 = s0 98 16 := (Gs4 98 16 rfl).trans rfl
  have es4_4 : s4 90 2 = s0 90 2 := (Gs4 90 2 rfl).trans rfl
  have es4_5 : s4 98 29 = s0 98 29 := (Gs4 98 29 rfl).trans rfl
  have es4_6 : s4 63 2 = s0 63 2 := (Gs4 63 2 rfl).trans rfl
  refine h_pop (pc' := 792) rfl rfl rfl ?_
  refine h_aload_n (pc' := 793) rfl rfl rfl ?_
  refine h_aload_n (pc' := 794) rfl rfl rfl ?_
  refine h_iload_n (pc' := 795) rfl rfl rfl ?_
  refine h_iconst (pc' := 796) (x := (Int32.ofInt 1)) rfl rfl rfl ?_
  refine h_iadd (pc' := 797) rfl rfl hy3 ci_1 rfl (by omega) (by omega) (fun z5 hz5 => ?_)
  refine h_iald (pc' := 798) (v := s0 0 (b3 + 1)) rfl rfl rfl hz5 (by omega) (by omega) (Zs4 _) (fun z6 hz6 => ?_)
  have tz6 := h_rgv hz6
  refine h_call (sp := false) (pc' := 801) (M := [(0, .ref 98), (1, .int z6)]) rfl rfl rfl rfl rfl rfl rfl rfl ?_
  refine w_195_98 _ Is4 z6 _ hz6 (fun r7 br7 hr7 s8 Is8 Gs8 tr7 => h_Kv ?_)
  have Zs8 : ∀ i, s8 0 i = s0 0 i := fun i => (Gs8 0 i rfl).trans (Zs4 i)
  have Fs8 : h_F (fun _ _ => true) s8 s0 := fun _ _ h => by cases h
  have es8_0 : s8 64 1 = s0 64 1 := (Gs8 64 1 rfl).trans es4_0
  have es8_1 : s8 98 11 = s0 98 11 := (Gs8 98 11 rfl).trans es4_1
  have es8_2 : s8 64 4 = s0 64 4 := (Gs8 64 4 rfl).trans es4_2
  have es8_3 : s8 98 16 = s0 98 16 := (Gs8 98 16 rfl).trans es4_3
  have es8_4 : s8 90 2 = s0 90 2 := (Gs8 90 2 rfl).trans es4_4
  have es8_5 : s8 98 29 = s0 98 29 := (Gs8 98 29 rfl).trans es4_5
  have es8_6 : s8 63 2 = s0 63 2 := (Gs8 63 2 rfl).trans es4_6
  clear es4_0 es4_1 es4_2 es4_3 es4_4 es4_5 es4_6
  refine h_pop (pc' := 802) rfl rfl rfl ?_
  refine h_goto (pc' := 1441) rfl rfl ?_
  exact kk _ Is8 (by first | exact d_tape.le j0 (Int.le_antisymm (by omega) (by omega)) (by omega) (fun j => (Gs8 65 j rfl).trans ((Gs4 65 j rfl))) (fun j => (Gs8 102 j rfl).trans ((Gs4 102 j rfl))) | (exfalso; omega)) (Int.le_antisymm (by omega) (by omega)) (Int.le_antisymm (by omega) (by omega))
set_option maxHeartbeats 100000000 in
theorem g_case_805 {ns : Nat} (hns : ns ≤ 320) (s0 : h_S) (I0 : h_I s0) (j0 : d_tape s0 s0) (j1 : s0 64 4 = s0 98 16) (j2 : s0 90 2 = s0 98 29) (y3 : Int32) (b3 : Int) (hy3 : y3.toInt = b3) (hr : 0 ≤ b3 ∧ b3 + 5 ≤ ns) {Q : Option Value → h_S → Prop} (kk : ∀ τ, h_I τ → (d_tape τ τ) → (τ 64 4 = τ 98 16) → (τ 90 2 = τ 98 29) → h_T g_P (g_Y ns) 225 1441 [(0, .ref 0), (1, .ref 9), (2, .ref 98), (3, .int y3)] [] τ Q) : h_T g_P (g_Y ns) 225 805 [(0, .ref 0), (1, .ref 9), (2, .ref 98), (3, .int y3)] [] s0 Q := by
  have F0_ : h_F (fun _ _ => true) s0 s0 := h_F.rf
  have j0_ := j0.2
  have i0 := tf_64_1 I0
  have i1 := tf_98_11 I0
  have i2 := tf_64_4 I0
  have i3 := tf_98_16 I0
  have i4 := tf_90_2 I0
  have i5 := tf_98_29 I0
  have i6 := tf_63_2 I0
  refine h_aload_n (pc' := 806) rfl rfl rfl ?_
  refine h_aload_n (pc' := 807) rfl rfl rfl ?_
  refine h_iload_n (pc' := 808) rfl rfl rfl ?_
  refine h_iconst (pc' := 809) (x := (Int32.ofInt 1)) rfl rfl rfl ?_
  refine h_iadd (pc' := 810) rfl rfl hy3 ci_1 rfl (by omega) (by omega) (fun z1 hz1 => ?_)
  refine h_iald (pc' := 811) (v := s0 0 (b3 + 1)) rfl rfl rfl hz1 (by omega) (by omega) rfl (fun z2 hz2 => ?_)
  have tz2 := h_rgv hz2
  refine h_aload_n (pc' := 812) rfl rfl rfl ?_
  refine h_iload_n (pc' := 813) rfl rfl rfl ?_
  refine h_iconst (pc' := 814) (x := (Int32.ofInt 2)) rfl rfl rfl ?_
  refine h_iadd (pc' := 815) rfl rfl hy3 ci_2 rfl (by omega) (by omega) (fun z3 hz3 => ?_)
  refine h_iald (pc' := 816) (v := s0 0 (b3 + 2)) rfl rfl rfl hz3 (by omega) (by omega) rfl (fun z4 hz4 => ?_)
  have tz4 := h_rgv hz4
  refine h_call (sp := false) (pc' := 819) (M := [(0, .ref 9), (1, .int z2), (2, .int z4)]) rfl rfl rfl rfl rfl rfl rfl rfl ?_
  refine w_103_9 _ I0 z2 _ hz2 z4 _ hz4 (fun r5 br5 hr5 s6 Is6 Gs6 => h_Kv ?_)
  have Zs6 : ∀ i, s6 0 i = s0 0 i := fun i => (Gs6 0 i rfl).trans rfl
  have Fs6 : h_F (fun _ _ => true) s6 s0 := fun _ _ h => by cases h
  have es6_0 : s6 64 1 = s0 64 1 := (Gs6 64 1 rfl).trans rfl
  have es6_1 : s6 98 11 = s0 98 11 := (Gs6 98 11 rfl).trans rfl
  have es6_2 : s6 64 4 = s0 64 4 := (Gs6 64 4 rfl).trans rfl
  have es6_3 : s6 98 16 = s0 98 16 := (Gs6 98 16 rfl).trans rfl
  have es6_4 : s6 90 2 = s0 90 2 := (Gs6 90 2 rfl).trans rfl
  have es6_5 : s6 98 29 = s0 98 29 := (Gs6 98 29 rfl).trans rfl
  have es6_6 : s6 63 2 = s0 63 2 := (Gs6 63 2 rfl).trans rfl
  refine h_pop (pc' := 820) rfl rfl rfl ?_
  refine h_aload_n (pc' := 821) rfl rfl rfl ?_
  refine h_aload_n (pc' := 822) rfl rfl rfl ?_
  refine h_iload_n (pc' := 823) rfl rfl rfl ?_
  refine h_iconst (pc' := 824) (x := (Int32.ofInt 1)) rfl rfl rfl ?_
  refine h_iadd (pc' := 825) rfl rfl hy3 ci_1 rfl (by omega) (by omega) (fun z7 hz7 => ?_)
  refine h_iald (pc' := 826) (v := s0 0 (b3 + 1)) rfl rfl rfl hz7 (by omega) (by omega) (Zs6 _) (fun z8 hz8 => ?_)
  have tz8 := h_rgv hz8
  refine h_aload_n (pc' := 827) rfl rfl rfl ?_
  refine h_iload_n (pc' := 828) rfl rfl rfl ?_
  refine h_iconst (pc' := 829) (x := (Int32.ofInt 2)) rfl rfl rfl ?_
  refine h_iadd (pc' := 830) rfl rfl hy3 ci_2 rfl (by omega) (by omega) (fun z9 hz9 => ?_)
  refine h_iald (pc' := 831) (v := s0 0 (b3 + 2)) rfl rfl rfl hz9 (by omega) (by omega) (Zs6 _) (fun z10 hz10 => ?_)
  have tz10 := h_rgv hz10
  refine h_call (sp := false) (pc' := 834) (M := [(0, .ref 98), (1, .int z8), (2, .int z10)]) rfl rfl rfl rfl rfl rfl rfl rfl ?_
  refine w_199_98 _ Is6 z8 _ hz8 z10 _ hz10 (fun r11 br11 hr11 s12 Is12 Gs12 => h_Kv ?_)
  have Zs12 : ∀ i, s12 0 i = s0 0 i := fun i => (Gs12 0 i rfl).trans (Zs6 i)
  have Fs12 : h_F (fun _ _ => true) s12 s0 := fun _ _ h => by cases h
  have es12_0 : s12 64 1 = s0 64 1 := (Gs12 64 1 rfl).trans es6_0
  have es12_1 : s12 98 11 = s0 98 11 := (Gs12 98 11 rfl).trans es6_1
  have es12_2 : s12 64 4 = s0 64 4 := (Gs12 64 4 rfl).trans es6_2
  have es12_3 : s12 98 16 = s0 98 16 := (Gs12 98 16 rfl).trans es6_3
  have es12_4 : s12 90 2 = s0 90 2 := (Gs12 90 2 rfl).trans es6_4
  have es12_5 : s12 98 29 = s0 98 29 := (Gs12 98 29 rfl).trans es6_5
  have es12_6 : s12 63 2 = s0 63 2 := (Gs12 63 2 rfl).trans es6_6
  clear es6_0 es6_1 es6_2 es6_3 es6_4 es6_5 es6_6
  refine h_pop (pc' := 835) rfl rfl rfl ?_
  refine h_goto (pc' := 1441) rfl rfl ?_
  exact kk _ Is12 (by first | exact d_tape.le j0 (Int.le_antisymm (by omega) (by omega)) (by omega) (fun j => (Gs12 65 j rfl).trans ((Gs6 65 j rfl))) (fun j => (Gs12 102 j rfl).trans ((Gs6 102 j rfl))) | (exfalso; omega)) (Int.le_antisymm (by omega) (by omega)) (Int.le_antisymm (by omega) (by omega))
set_option maxHeartbeats 100000000 in
theorem g_case_838 {ns : Nat} (hns : ns ≤ 320) (s0 : h_S) (I0 : h_I s0) (j0 : d_tape s0 s0) (j1 : s0 64 4 = s0 98 16) (j2 : s0 90 2 = s0 98 29) (y3 : Int32) (b3 : Int) (hy3 : y3.toInt = b3) (hr : 0 ≤ b3 ∧ b3 + 5 ≤ ns) {Q : Option Value → h_S → Prop} (kk : ∀ τ, h_I τ → (d_tape τ τ) → (τ 64 4 = τ 98 16) → (τ 90 2 = τ 98 29) → h_T g_P (g_Y ns) 225 1441 [(0, .ref 0), (1, .ref 9), (2, .ref 98), (3, .int y3)] [] τ Q) : h_T g_P (g_Y ns) 225 838 [(0, .ref 0), (1, .ref 9), (2, .ref 98), (3, .int y3)] [] s0 Q := by
  have F0_ : h_F (fun _ _ => true) s0 s0 := h_F.rf
  have j0_ := j0.2
  have i0 := tf_64_1 I0
  have i1 := tf_98_11 I0
  have i2 := tf_64_4 I0
  have i3 := tf_98_16 I0
  have i4 := tf_90_2 I0
  have i5 := tf_98_29 I0
  have i6 := tf_63_2 I0
  refine h_aload_n (pc' := 839) rfl rfl rfl ?_
  refine h_aload_n (pc' := 840) rfl rfl rfl ?_
  refine h_iload_n (pc' := 841) rfl rfl rfl ?_
  refine h_iconst (pc' := 842) (x := (Int32.ofInt 1)) rfl rfl rfl ?_
  refine h_iadd (pc' := 843) rfl rfl hy3 ci_1 rfl (by omega) (by omega) (fun z1 hz1 => ?_)
  refine h_iald (pc' := 844) (v := s0 0 (b3 + 1)) rfl rfl rfl hz1 (by omega) (by omega) rfl (fun z2 hz2 => ?_)
  have tz2 := h_rgv hz2
  refine h_aload_n (pc' := 845) rfl rfl rfl ?_
  refine h_iload_n (pc' := 846) rfl rfl rfl ?_
  refine h_iconst (pc' := 847) (x := (Int32.ofInt 2)) rfl rfl rfl ?_
  refine h_iadd (pc' := 848) rfl rfl hy3 ci_2 rfl (by omega) (by omega) (fun z3 hz3 => ?_)
  refine h_iald (pc' := 849) (v := s0 0 (b3 + 2)) rfl rfl rfl hz3 (by omega) (by omega) rfl (fun z4 hz4 => ?_)
  have tz4 := h_rgv hz4
  refine h_aload_n (pc' := 850) rfl rfl rfl ?_
  refine h_iload_n (pc' := 851) rfl rfl rfl ?_
  refine h_iconst (pc' := 852) (x := (Int32.ofInt 3)) rfl rfl rfl ?_
  refine h_iadd (pc' := 853) rfl rfl hy3 ci_3 rfl (by omega) (by omega) (fun z5 hz5 => ?_)
  refine h_iald (pc' := 854) (v := s0 0 (b3 + 3)) rfl rfl rfl hz5 (by omega) (by omega) rfl (fun z6 hz6 => ?_)
  have tz6 := h_rgv hz6
  refine h_call (sp := false) (pc' := 857) (M := [(0, .ref 9), (1, .int z2), (2, .int z4), (3, .int z6)]) rfl rfl rfl rfl rfl rfl rfl rfl ?_
  refine w_104_9 _ I0 z2 _ hz2 z4 _ hz4 z6 _ hz6 (fun r7 br7 hr7 s8 Is8 Gs8 tr7 => h_Kv ?_)
  have Zs8 : ∀ i, s8 0 i = s0 0 i := fun i => (Gs8 0 i rfl).trans rfl
  have Fs8 : h_F (fun _ _ => true) s8 s0 := fun _ _ h => by cases h
  have es8_0 : s8 64 1 = s0 64 1 := (Gs8 64 1 rfl).trans rfl
  have es8_1 : s8 98 11 = s0 98 11 := (Gs8 98 11 rfl).trans rfl
  have es8_2 : s8 64 4 = s0 64 4 := (Gs8 64 4 rfl).trans rfl
  have es8_3 : s8 98 16 = s0 98 16 := (Gs8 98 16 rfl).trans rfl
  have es8_4 : s8 90 2 = s0 90 2 := (Gs8 90 2 rfl).trans rfl
  have es8_5 : s8 98 29 = s0 98 29 := (Gs8 98 29 rfl).trans rfl
  have es8_6 : s8 63 2 = s0 63 2 := (Gs8 63 2 rfl).trans rfl
  refine h_pop (pc' := 858) rfl rfl rfl ?_
  refine h_aload_n (pc' := 859) rfl rfl rfl ?_
  refine h_aload_n (pc' := 860) rfl rfl rfl ?_
  refine h_iload_n (pc' := 861) rfl rfl rfl ?_
  refine h_iconst (pc' := 862) (x := (Int32.ofInt 1)) rfl rfl rfl ?_
  refine h_iadd (pc' := 863) rfl rfl hy3 ci_1 rfl (by omega) (by omega) (fun z9 hz9 => ?_)
  refine h_iald (pc' := 864) (v := s0 0 (b3 + 1)) rfl rfl rfl hz9 (by omega) (by omega) (Zs8 _) (fun z10 hz10 => ?_)
  have tz10 := h_rgv hz10
  refine h_aload_n (pc' := 865) rfl rfl rfl ?_
  refine h_iload_n (pc' := 866) rfl rfl rfl ?_
  refine h_iconst (pc' := 867) (x := (Int32.ofInt 2)) rfl rfl rfl ?_
  refine h_iadd (pc' := 868) rfl rfl hy3 ci_2 rfl (by omega) (by omega) (fun z11 hz11 => ?_)
  refine h_iald (pc' := 869) (v := s0 0 (b3 + 2)) rfl rfl rfl hz11 (by omega) (by omega) (Zs8 _) (fun z12 hz12 => ?_)
  have tz12 := h_rgv hz12
  refine h_aload_n (pc' := 870) rfl rfl rfl ?_
  refine h_iload_n (pc' := 871) rfl rfl rfl ?_
  refine h_iconst (pc' := 872) (x := (Int32.ofInt 3)) rfl rfl rfl ?_
  refine h_iadd (pc' := 873) rfl rfl hy3 ci_3 rfl (by omega) (by omega) (fun z13 hz13 => ?_)
  refine h_iald (pc' := 874) (v := s0 0 (b3 + 3)) rfl rfl rfl hz13 (by omega) (by omega) (Zs8 _) (fun z14 hz14 => ?_)
  have tz14 := h_rgv hz14
  refine h_call (sp := false) (pc' := 877) (M := [(0, .ref 98), (1, .int z10), (2, .int z12), (3, .int z14)]) rfl rfl rfl rfl rfl rfl rfl rfl ?_
  refine w_201_98 _ Is8 z10 _ hz10 z12 _ hz12 z14 _ hz14 (fun r15 br15 hr15 s16 Is16 Gs16 tr15 => h_Kv ?_)
  have Zs16 : ∀ i, s16 0 i = s0 0 i := fun i => (Gs16 0 i rfl).trans (Zs8 i)
  have Fs16 : h_F (fun _ _ => true) s16 s0 := fun _ _ h => by cases h
  have es16_0 : s16 64 1 = s0 64 1 := (Gs16 64 1 rfl).trans es8_0
  have es16_1 : s16 98 11 = s0 98 11 := (Gs16 98 11 rfl).trans es8_1
  have es16_2 : s16 64 4 = s0 64 4 := (Gs16 64 4 rfl).trans es8_2
  have es16_3 : s16 98 16 = s0 98 16 := (Gs16 98 16 rfl).trans es8_3
  have es16_4 : s16 90 2 = s0 90 2 := (Gs16 90 2 rfl).trans es8_4
  have es16_5 : s16 98 29 = s0 98 29 := (Gs16 98 29 rfl).trans es8_5
  have es16_6 : s16 63 2 = s0 63 2 := (Gs16 63 2 rfl).trans es8_6
  clear es8_0 es8_1 es8_2 es8_3 es8_4 es8_5 es8_6
  refine h_pop (pc' := 878) rfl rfl rfl ?_
  refine h_goto (pc' := 1441) rfl rfl ?_
  exact kk _ Is16 (by first | exact d_tape.le j0 (Int.le_antisymm (by omega) (by omega)) (by omega) (fun j => (Gs16 65 j rfl).trans ((Gs8 65 j rfl))) (fun j => (Gs16 102 j rfl).trans ((Gs8 102 j rfl))) | (exfalso; omega)) (Int.le_antisymm (by omega) (by omega)) (Int.le_antisymm (by omega) (by omega))
set_option maxHeartbeats 100000000 in
theorem g_case_881 {ns : Nat} (hns : ns ≤ 320) (s0 : h_S) (I0 : h_I s0) (j0 : d_tape s0 s0) (j1 : s0 64 4 = s0 98 16) (j2 : s0 90 2 = s0 98 29) (y3 : Int32) (b3 : Int) (hy3 : y3.toInt = b3) (hr : 0 ≤ b3 ∧ b3 + 5 ≤ ns) {Q : Option Value → h_S → Prop} (kk : ∀ τ, h_I τ → (d_tape τ τ) → (τ 64 4 = τ 98 16) → (τ 90 2 = τ 98 29) → h_T g_P (g_Y ns) 225 1441 [(0, .ref 0), (1, .ref 9), (2, .ref 98), (3, .int y3)] [] τ Q) : h_T g_P (g_Y ns) 225 881 [(0, .ref 0), (1, .ref 9), (2, .ref 98), (3, .int y3)] [] s0 Q := by
  have F0_ : h_F (fun _ _ => true) s0 s0 := h_F.rf
  have j0_ := j0.2
  have i0 := tf_64_1 I0
  have i1 := tf_98_11 I0
  have i2 := tf_64_4 I0
  have i3 := tf_98_16 I0
  have i4 := tf_90_2 I0
  have i5 := tf_98_29 I0
  have i6 := tf_63_2 I0
  refine h_aload_n (pc' := 882) rfl rfl rfl ?_
  refine h_aload_n (pc' := 883) rfl rfl rfl ?_
  refine h_iload_n (pc' := 884) rfl rfl rfl ?_
  refine h_iconst (pc' := 885) (x := (Int32.ofInt 1)) rfl rfl rfl ?_
  refine h_iadd (pc' := 886) rfl rfl hy3 ci_1 rfl (by omega) (by omega) (fun z1 hz1 => ?_)
  refine h_iald (pc' := 887) (v := s0 0 (b3 + 1)) rfl rfl rfl hz1 (by omega) (by omega) rfl (fun z2 hz2 => ?_)
  have tz2 := h_rgv hz2
  refine h_aload_n (pc' := 888) rfl rfl rfl ?_
  refine h_iload_n (pc' := 889) rfl rfl rfl ?_
  refine h_iconst (pc' := 890) (x := (Int32.ofInt 2)) rfl rfl rfl ?_
  refine h_iadd (pc' := 891) rfl rfl hy3 ci_2 rfl (by omega) (by omega) (fun z3 hz3 => ?_)
  refine h_iald (pc' := 892) (v := s0 0 (b3 + 2)) rfl rfl rfl hz3 (by omega) (by omega) rfl (fun z4 hz4 => ?_)
  have tz4 := h_rgv hz4
  refine h_call (sp := false) (pc' := 895) (M := [(0, .ref 9), (1, .int z2), (2, .int z4)]) rfl rfl rfl rfl rfl rfl rfl rfl ?_
  refine w_105_9 _ I0 z2 _ hz2 z4 _ hz4 (fun r5 br5 hr5 s6 Is6 Gs6 => h_Kv ?_)
  have Zs6 : ∀ i, s6 0 i = s0 0 i := fun i => (Gs6 0 i rfl).trans rfl
  have Fs6 : h_F (fun _ _ => true) s6 s0 := fun _ _ h => by cases h
  have es6_0 : s6 64 1 = s0 64 1 := (Gs6 64 1 rfl).trans rfl
  have es6_1 : s6 98 11 = s0 98 11 := (Gs6 98 11 rfl).trans rfl
  have es6_2 : s6 64 4 = s0 64 4 := (Gs6 64 4 rfl).trans rfl
  have es6_3 : s6 98 16 = s0 98 16 := (Gs6 98 16 rfl).trans rfl
  have es6_4 : s6 90 2 = s0 90 2 := (Gs6 90 2 rfl).trans rfl
  have es6_5 : s6 98 29 = s0 98 29 := (Gs6 98 29 rfl).trans rfl
  have es6_6 : s6 63 2 = s0 63 2 := (Gs6 63 2 rfl).trans rfl
  refine h_pop (pc' := 896) rfl rfl rfl ?_
  refine h_aload_n (pc' := 897) rfl rfl rfl ?_
  refine h_aload_n (pc' := 898) rfl rfl rfl ?_
  refine h_iload_n (pc' := 899) rfl rfl rfl ?_
  refine h_iconst (pc' := 900) (x := (Int32.ofInt 1)) rfl rfl rfl ?_
  refine h_iadd (pc' := 901) rfl rfl hy3 ci_1 rfl (by omega) (by omega) (fun z7 hz7 => ?_)
  refine h_iald (pc' := 902) (v := s0 0 (b3 + 1)) rfl rfl rfl hz7 (by omega) (by omega) (Zs6 _) (fun z8 hz8 => ?_)
  have tz8 := h_rgv hz8
  refine h_aload_n (pc' := 903) rfl rfl rfl ?_
  refine h_iload_n (pc' := 904) rfl rfl rfl ?_
  refine h_iconst (pc' := 905) (x := (Int32.ofInt 2)) rfl rfl rfl ?_
  refine h_iadd (pc' := 906) rfl rfl hy3 ci_2 rfl (by omega) (by omega) (fun z9 hz9 => ?_)
  refine h_iald (pc' := 907) (v := s0 0 (b3 + 2)) rfl rfl rfl hz9 (by omega) (by omega) (Zs6 _) (fun z10 hz10 => ?_)
  have tz10 := h_rgv hz10
  refine h_call (sp := false) (pc' := 910) (M := [(0, .ref 98), (1, .int z8), (2, .int z10)]) rfl rfl rfl rfl rfl rfl rfl rfl ?_
  refine w_202_98 _ Is6 z8 _ hz8 z10 _ hz10 (fun r11 br11 hr11 s12 Is12 Gs12 tr11 => h_Kv ?_)
  have Zs12 : ∀ i, s12 0 i = s0 0 i := fun i => (Gs12 0 i rfl).trans (Zs6 i)
  have Fs12 : h_F (fun _ _ => true) s12 s0 := fun _ _ h => by cases h
  have es12_0 : s12 64 1 = s0 64 1 := (Gs12 64 1 rfl).trans es6_0
  have es12_1 : s12 98 11 = s0 98 11 := (Gs12 98 11 rfl).trans es6_1
  have es12_2 : s12 64 4 = s0 64 4 := (Gs12 64 4 rfl).trans es6_2
  have es12_3 : s12 98 16 = s0 98 16 := (Gs12 98 16 rfl).trans es6_3
  have es12_4 : s12 90 2 = s0 90 2 := (Gs12 90 2 rfl).trans es6_4
  have es12_5 : s12 98 29 = s0 98 29 := (Gs12 98 29 rfl).trans es6_5
  have es12_6 : s12 63 2 = s0 63 2 := (Gs12 63 2 rfl).trans es6_6
  clear es6_0 es6_1 es6_2 es6_3 es6_4 es6_5 es6_6
  refine h_pop (pc' := 911) rfl rfl rfl ?_
  refine h_goto (pc' := 1441) rfl rfl ?_
  exact kk _ Is12 (by first | exact d_tape.le j0 (Int.le_antisymm (by omega) (by omega)) (by omega) (fun j => (Gs12 65 j rfl).trans ((Gs6 65 j rfl))) (fun j => (Gs12 102 j rfl).trans ((Gs6 102 j rfl))) | (exfalso; omega)) (Int.le_antisymm (by omega) (by omega)) (Int.le_antisymm (by omega) (by omega))
set_option maxHeartbeats 100000000 in
theorem g_case_914 {ns : Nat} (hns : ns ≤ 320) (s0 : h_S) (I0 : h_I s0) (j0 : d_tape s0 s0) (j1 : s0 64 4 = s0 98 16) (j2 : s0 90 2 = s0 98 29) (y3 : Int32) (b3 : Int) (hy3 : y3.toInt = b3) (hr : 0 ≤ b3 ∧ b3 + 5 ≤ ns) {Q : Option Value → h_S → Prop} (kk : ∀ τ, h_I τ → (d_tape τ τ) → (τ 64 4 = τ 98 16) → (τ 90 2 = τ 98 29) → h_T g_P (g_Y ns) 225 1441 [(0, .ref 0), (1, .ref 9), (2, .ref 98), (3, .int y3)] [] τ Q) : h_T g_P (g_Y ns) 225 914 [(0, .ref 0), (1, .ref 9), (2, .ref 98), (3, .int y3)] [] s0 Q := by
  have F0_ : h_F (fun _ _ => true) s0 s0 := h_F.rf
  have j0_ := j0.2
  have i0 := tf_64_1 I0
  have i1 := tf_98_11 I0
  have i2 := tf_64_4 I0
  have i3 := tf_98_16 I0
  have i4 := tf_90_2 I0
  have i5 := tf_98_29 I0
  have i6 := tf_63_2 I0
  refine h_aload_n (pc' := 915) rfl rfl rfl ?_
  refine h_call (sp := false) (pc' := 918) (M := [(0, .ref 9)]) rfl rfl rfl rfl rfl rfl rfl rfl ?_
  refine w_106_9 _ I0  (fun r1 br1 hr1 s2 Is2 Gs2 => h_Kv ?_)
  have Zs2 : ∀ i, s2 0 i = s0 0 i := fun i => (Gs2 0 i rfl).trans rfl
  have Fs2 : h_F (fun _ _ => true) s2 s0 := fun _ _ h => by cases h
  have es2_0 : s2 64 1 = s0 64 1 := (Gs2 64 1 rfl).trans rfl
  have es2_1 : s2 98 11 = s0 98 11 := (Gs2 98 11 rfl).trans rfl
  have es2_2 : s2 64 4 = s0 64 4 := (Gs2 64 4 rfl).trans rfl
  have es2_3 : s2 98 16 = s0 98 16 := (Gs2 98 16 rfl).trans rfl
  have es2_4 : s2 90 2 = s0 90 2 := (Gs2 90 2 rfl).trans rfl
  have es2_5 : s2 98 29 = s0 98 29 := (Gs2 98 29 rfl).trans rfl
  have es2_6 : s2 63 2 = s0 63 2 := (Gs2 63 2 rfl).trans rfl
  refine h_pop (pc' := 919) rfl rfl rfl ?_
  refine h_aload_n (pc' := 920) rfl rfl rfl ?_
  refine h_call (sp := false) (pc' := 923) (M := [(0, .ref 98)]) rfl rfl rfl rfl rfl rfl rfl rfl ?_
  refine w_203_98 _ Is2  (fun r3 br3 hr3 s4 Is4 Gs4 => h_Kv ?_)
  have Zs4 : ∀ i, s4 0 i = s0 0 i := fun i => (Gs4 0 i rfl).trans (Zs2 i)
  have Fs4 : h_F (fun _ _ => true) s4 s0 := fun _ _ h => by cases h
  have es4_0 : s4 64 1 = s0 64 1 := (Gs4 64 1 rfl).trans es2_0
  have es4_1 : s4 98 11 = s0 98 11 := (Gs4 98 11 rfl).trans es2_1
  have es4_2 : s4 64 4 = s0 64 4 := (Gs4 64 4 rfl).trans es2_2
  have es4_3 : s4 98 16 = s0 98 16 := (Gs4 98 16 rfl).trans es2_3
  have es4_4 : s4 90 2 = s0 90 2 := (Gs4 90 2 rfl).trans es2_4
  have es4_5 : s4 98 29 = s0 98 29 := (Gs4 98 29 rfl).trans es2_5
  have es4_6 : s4 63 2 = s0 63 2 := (Gs4 63 2 rfl).trans es2_6
  clear es2_0 es2_1 es2_2 es2_3 es2_4 es2_5 es2_6
  refine h_pop (pc' := 924) rfl rfl rfl ?_
  refine h_goto (pc' := 1441) rfl rfl ?_
  exact kk _ Is4 (by first | exact d_tape.le j0 (Int.le_antisymm (by omega) (by omega)) (by omega) (fun j => (Gs4 65 j rfl).trans ((Gs2 65 j rfl))) (fun j => (Gs4 102 j rfl).trans ((Gs2 102 j rfl))) | (exfalso; omega)) (Int.le_antisymm (by omega) (by omega)) (Int.le_antisymm (by omega) (by omega))
set_option maxHeartbeats 100000000 in
theorem g_case_927 {ns : Nat} (hns : ns ≤ 320) (s0 : h_S) (I0 : h_I s0) (j0 : d_tape s0 s0) (j1 : s0 64 4 = s0 98 16) (j2 : s0 90 2 = s0 98 29) (y3 : Int32) (b3 : Int) (hy3 : y3.toInt = b3) (hr : 0 ≤ b3 ∧ b3 + 5 ≤ ns) {Q : Option Value → h_S → Prop} (kk : ∀ τ, h_I τ → (d_tape τ τ) → (τ 64 4 = τ 98 16) → (τ 90 2 = τ 98 29) → h_T g_P (g_Y ns) 225 1441 [(0, .ref 0), (1, .ref 9), (2, .ref 98), (3, .int y3)] [] τ Q) : h_T g_P (g_Y ns) 225 927 [(0, .ref 0), (1, .ref 9), (2, .ref 98), (3, .int y3)] [] s0 Q := by
  have F0_ : h_F (fun _ _ => true) s0 s0 := h_F.rf
  have j0_ := j0.2
  have i0 := tf_64_1 I0
  have i1 := tf_98_11 I0
  have i2 := tf_64_4 I0
  have i3 := tf_98_16 I0
  have i4 := tf_90_2 I0
  have i5 := tf_98_29 I0
  have i6 := tf_63_2 I0
  refine h_aload_n (pc' := 928) rfl rfl rfl ?_
  refine h_aload_n (pc' := 929) rfl rfl rfl ?_
  refine h_iload_n (pc' := 930) rfl rfl rfl ?_
  refine h_iconst (pc' := 931) (x := (Int32.ofInt 1)) rfl rfl rfl ?_
  refine h_iadd (pc' := 932) rfl rfl hy3 ci_1 rfl (by omega) (by omega) (fun z1 hz1 => ?_)
  refine h_iald (pc' := 933) (v := s0 0 (b3 + 1)) rfl rfl rfl hz1 (by omega) (by omega) rfl (fun z2 hz2 => ?_)
  have tz2 := h_rgv hz2
  refine h_call (sp := false) (pc' := 936) (M := [(0, .ref 9), (1, .int z2)]) rfl rfl rfl rfl rfl rfl rfl rfl ?_
  refine w_107_9 _ I0 z2 _ hz2 (fun r3 br3 hr3 s4 Is4 Gs4 tr3 => h_Kv ?_)
  have Zs4 : ∀ i, s4 0 i = s0 0 i := fun i => (Gs4 0 i rfl).trans rfl
  have Fs4 : h_F (fun _ _ => true) s4 s0 := fun _ _ h => by cases h
  have es4_0 : s4 64 1 = s0 64 1 := (Gs4 64 1 rfl).trans rfl
  have es4_1 : s4 98 11 = s0 98 11 := (Gs4 98 11 rfl).trans rfl
  have es4_2 : s4 64 4 = s0 64 4 := (Gs4 64 4 rfl).trans rfl
  have es4_3 : s4 98 16 = s0 98 16 := (Gs4 98 16 rfl).trans rfl
  have es4_4 : s4 90 2 = s0 90 2 := (Gs4 90 2 rfl).trans rfl
  have es4_5 : s4 98 29 = s0 98 29 := (Gs4 98 29 rfl).trans rfl
  have es4_6 : s4 63 2 = s0 63 2 := (Gs4 63 2 rfl).trans rfl
  refine h_pop (pc' := 937) rfl rfl rfl ?_
  refine h_aload_n (pc' := 938) rfl rfl rfl ?_
  refine h_aload_n (pc' := 939) rfl rfl rfl ?_
  refine h_iload_n (pc' := 940) rfl rfl rfl ?_
  refine h_iconst (pc' := 941) (x := (Int32.ofInt 1)) rfl rfl rfl ?_
  refine h_iadd (pc' := 942) rfl rfl hy3 ci_1 rfl (by omega) (by omega) (fun z5 hz5 => ?_)
  refine h_iald (pc' := 943) (v := s0 0 (b3 + 1)) rfl rfl rfl hz5 (by omega) (by omega) (Zs4 _) (fun z6 hz6 => ?_)
  have tz6 := h_rgv hz6
  refine h_call (sp := false) (pc' := 946) (M := [(0, .ref 98), (1, .int z6)]) rfl rfl rfl rfl rfl rfl rfl rfl ?_
  refine w_204_98 _ Is4 z6 _ hz6 (fun r7 br7 hr7 s8 Is8 Gs8 tr7 => h_Kv ?_)
  have Zs8 : ∀ i, s8 0 i = s0 0 i := fun i => (Gs8 0 i rfl).trans (Zs4 i)
  have Fs8 : h_F (fun _ _ => true) s8 s0 := fun _ _ h => by cases h
  have es8_0 : s8 64 1 = s0 64 1 := (Gs8 64 1 rfl).trans es4_0
  have es8_1 : s8 98 11 = s0 98 11 := (Gs8 98 11 rfl).trans es4_1
  have es8_2 : s8 64 4 = s0 64 4 := (Gs8 64 4 rfl).trans es4_2
  have es8_3 : s8 98 16 = s0 98 16 := (Gs8 98 16 rfl).trans es4_3
  have es8_4 : s8 90 2 = s0 90 2 := (Gs8 90 2 rfl).trans es4_4
  have es8_5 : s8 98 29 = s0 98 29 := (Gs8 98 29 rfl).trans es4_5
  have es8_6 : s8 63 2 = s0 63 2 := (Gs8 63 2 rfl).trans es4_6
  clear es4_0 es4_1 es4_2 es4_3 es4_4 es4_5 es4_6
  refine h_pop (pc' := 947) rfl rfl rfl ?_
  refine h_goto (pc' := 1441) rfl rfl ?_
  exact kk _ Is8 (by first | exact d_tape.le j0 (Int.le_antisymm (by omega) (by omega)) (by omega) (fun j => (Gs8 65 j rfl).trans ((Gs4 65 j rfl))) (fun j => (Gs8 102 j rfl).trans ((Gs4 102 j rfl))) | (exfalso; omega)) (Int.le_antisymm (by omega) (by omega)) (Int.le_antisymm (by omega) (by omega))
set_option maxHeartbeats 100000000 in
theorem g_case_950 {ns : Nat} (hns : ns ≤ 320) (s0 : h_S) (I0 : h_I s0) (j0 : d_tape s0 s0) (j1 : s0 64 4 = s0 98 16) (j2 : s0 90 2 = s0 98 29) (y3 : Int32) (b3 : Int) (hy3 : y3.toInt = b3) (hr : 0 ≤ b3 ∧ b3 + 5 ≤ ns) {Q : Option Value → h_S → Prop} (kk : ∀ τ, h_I τ → (d_tape τ τ) → (τ 64 4 = τ 98 16) → (τ 90 2 = τ 98 29) → h_T g_P (g_Y ns) 225 1441 [(0, .ref 0), (1, .ref 9), (2, .ref 98), (3, .int y3)] [] τ Q) : h_T g_P (g_Y ns) 225 950 [(0, .ref 0), (1, .ref 9), (2, .ref 98), (3, .int y3)] [] s0 Q := by
  have F0_ : h_F (fun _ _ => true) s0 s0 := h_F.rf
  have j0_ := j0.2
  have i0 := tf_64_1 I0
  have i1 := tf_98_11 I0
  have i2 := tf_64_4 I0
  have i3 := tf_98_16 I0
  have i4 := tf_90_2 I0
  have i5 := tf_98_29 I0
  have i6 := tf_63_2 I0
  refine h_aload_n (pc' := 951) rfl rfl rfl ?_
  refine h_aload_n (pc' := 952) rfl rfl rfl ?_
  refine h_iload_n (pc' := 953) rfl rfl rfl ?_
  refine h_iconst (pc' := 954) (x := (Int32.ofInt 1)) rfl rfl rfl ?_
  refine h_iadd (pc' := 955) rfl rfl hy3 ci_1 rfl (by omega) (by omega) (fun z1 hz1 => ?_)
  refine h_iald (pc' := 956) (v := s0 0 (b3 + 1)) rfl rfl rfl hz1 (by omega) (by omega) rfl (fun z2 hz2 => ?_)
  have tz2 := h_rgv hz2
  refine h_aload_n (pc' := 957) rfl rfl rfl ?_
  refine h_iload_n (pc' := 958) rfl rfl rfl ?_
  refine h_iconst (pc' := 959) (x := (Int32.ofInt 2)) rfl rfl rfl ?_
  refine h_iadd (pc' := 960) rfl rfl hy3 ci_2 rfl (by omega) (by omega) (fun z3 hz3 => ?_)
  refine h_iald (pc' := 961) (v := s0 0 (b3 + 2)) rfl rfl rfl hz3 (by omega) (by omega) rfl (fun z4 hz4 => ?_)
  have tz4 := h_rgv hz4
  refine h_call (sp := false) (pc' := 964) (M := [(0, .ref 9), (1, .int z2), (2, .int z4)]) rfl rfl rfl rfl rfl rfl rfl rfl ?_
  refine w_108_9 _ I0 z2 _ hz2 z4 _ hz4 (fun r5 s6 Is6 Gs6 => h_Kv ?_)
  have Zs6 : ∀ i, s6 0 i = s0 0 i := fun i => (Gs6 0 i rfl).trans rfl
  have Fs6 : h_F (fun _ _ => true) s6 s0 := fun _ _ h => by cases h
  have es6_0 : s6 64 1 = s0 64 1 := (Gs6 64 1 rfl).trans rfl
  have es6_1 : s6 98 11 = s0 98 11 := (Gs6 98 11 rfl).trans rfl
  have es6_2 : s6 64 4 = s0 64 4 := (Gs6 64 4 rfl).trans rfl
  have es6_3 : s6 98 16 = s0 98 16 := (Gs6 98 16 rfl).trans rfl
  have es6_4 : s6 90 2 = s0 90 2 := (Gs6 90 2 rfl).trans rfl
  have es6_5 : s6 98 29 = s0 98 29 := (Gs6 98 29 rfl).trans rfl
  have es6_6 : s6 63 2 = s0 63 2 := (Gs6 63 2 rfl).trans rfl
  refine h_pop2 (pc' := 965) rfl rfl rfl ?_
  refine h_aload_n (pc' := 966) rfl rfl rfl ?_
  refine h_aload_n (pc' := 967) rfl rfl rfl ?_
  refine h_iload_n (pc' := 968) rfl rfl rfl ?_
  refine h_iconst (pc' := 969) (x := (Int32.ofInt 1)) rfl rfl rfl ?_
  refine h_iadd (pc' := 970) rfl rfl hy3 ci_1 rfl (by omega) (by omega) (fun z7 hz7 => ?_)
  refine h_iald (pc' := 971) (v := s0 0 (b3 + 1)) rfl rfl rfl hz7 (by omega) (by omega) (Zs6 _) (fun z8 hz8 => ?_)
  have tz8 := h_rgv hz8
  refine h_aload_n (pc' := 972) rfl rfl rfl ?_
  refine h_iload_n (pc' := 973) rfl rfl rfl ?_
  refine h_iconst (pc' := 974) (x := (Int32.ofInt 2)) rfl rfl rfl ?_
  refine h_iadd (pc' := 975) rfl rfl hy3 ci_2 rfl (by omega) (by omega) (fun z9 hz9 => ?_)
  refine h_iald (pc' := 976) (v := s0 0 (b3 + 2)) rfl rfl rfl hz9 (by omega) (by omega) (Zs6 _) (fun z10 hz10 => ?_)
  have tz10 := h_rgv hz10
  refine h_call (sp := false) (pc' := 979) (M := [(0, .ref 98), (1, .int z8), (2, .int z10)]) rfl rfl rfl rfl rfl rfl rfl rfl ?_
  refine w_207_98 _ Is6 z8 _ hz8 z10 _ hz10 (fun r11 s12 Is12 Gs12 => h_Kv ?_)
  have Zs12 : ∀ i, s12 0 i = s0 0 i := fun i => (Gs12 0 i rfl).trans (Zs6 i)
  have Fs12 : h_F (fun _ _ => true) s12 s0 := fun _ _ h => by cases h
  have es12_0 : s12 64 1 = s0 64 1 := (Gs12 64 1 rfl).trans es6_0
  have es12_1 : s12 98 11 = s0 98 11 := (Gs12 98 11 rfl).trans es6_1
  have es12_2 : s12 64 4 = s0 64 4 := (Gs12 64 4 rfl).trans es6_2
  have es12_3 : s12 98 16 = s0 98 16 := (Gs12 98 16 rfl).trans es6_3
  have es12_4 : s12 90 2 = s0 90 2 := (Gs12 90 2 rfl).trans es6_4
  have es12_5 : s12 98 29 = s0 98 29 := (Gs12 98 29 rfl).trans es6_5
  have es12_6 : s12 63 2 = s0 63 2 := (Gs12 63 2 rfl).trans es6_6
  clear es6_0 es6_1 es6_2 es6_3 es6_4 es6_5 es6_6
  refine h_pop2 (pc' := 980) rfl rfl rfl ?_
  refine h_goto (pc' := 1441) rfl rfl ?_
  exact kk _ Is12 (by first | exact d_tape.le j0 (Int.le_antisymm (by omega) (by omega)) (by omega) (fun j => (Gs12 65 j rfl).trans ((Gs6 65 j rfl))) (fun j => (Gs12 102 j rfl).trans ((Gs6 102 j rfl))) | (exfalso; omega)) (Int.le_antisymm (by omega) (by omega)) (Int.le_antisymm (by omega) (by omega))
set_option maxHeartbeats 100000000 in
theorem g_case_983 {ns : Nat} (hns : ns ≤ 320) (s0 : h_S) (I0 : h_I s0) (j0 : d_tape s0 s0) (j1 : s0 64 4 = s0 98 16) (j2 : s0 90 2 = s0 98 29) (y3 : Int32) (b3 : Int) (hy3 : y3.toInt = b3) (hr : 0 ≤ b3 ∧ b3 + 5 ≤ ns) {Q : Option Value → h_S → Prop} (kk : ∀ τ, h_I τ → (d_tape τ τ) → (τ 64 4 = τ 98 16) → (τ 90 2 = τ 98 29) → h_T g_P (g_Y ns) 225 1441 [(0, .ref 0), (1, .ref 9), (2, .ref 98), (3, .int y3)] [] τ Q) : h_T g_P (g_Y ns) 225 983 [(0, .ref 0), (1, .ref 9), (2, .ref 98), (3, .int y3)] [] s0 Q := by
  have F0_ : h_F (fun _ _ => true) s0 s0 := h_F.rf
  have j0_ := j0.2
  have i0 := tf_64_1 I0
  have i1 := tf_98_11 I0
  have i2 := tf_64_4 I0
  have i3 := tf_98_16 I0
  have i4 := tf_90_2 I0
  have i5 := tf_98_29 I0
  have i6 := tf_63_2 I0
  refine h_aload_n (pc' := 984) rfl rfl rfl ?_
  refine h_aload_n (pc' := 985) rfl rfl rfl ?_
  refine h_iload_n (pc' := 986) rfl rfl rfl ?_
  refine h_iconst (pc' := 987) (x := (Int32.ofInt 1)) rfl rfl rfl ?_
  refine h_iadd (pc' := 988) rfl rfl hy3 ci_1 rfl (by omega) (by omega) (fun z1 hz1 => ?_)
  refine h_iald (pc' := 989) (v := s0 0 (b3 + 1)) rfl rfl rfl hz1 (by omega) (by omega) rfl (fun z2 hz2 => ?_)
  have tz2 := h_rgv hz2
  refine h_aload_n (pc' := 990) rfl rfl rfl ?_
  refine h_iload_n (pc' := 991) rfl rfl rfl ?_
  refine h_iconst (pc' := 992) (x := (Int32.ofInt 2)) rfl rfl rfl ?_
  refine h_iadd (pc' := 993) rfl rfl hy3 ci_2 rfl (by omega) (by omega) (fun z3 hz3 => ?_)
  refine h_iald (pc' := 994) (v := s0 0 (b3 + 2)) rfl rfl rfl hz3 (by omega) (by omega) rfl (fun z4 hz4 => ?_)
  have tz4 := h_rgv hz4
  refine h_aload_n (pc' := 995) rfl rfl rfl ?_
  refine h_iload_n (pc' := 996) rfl rfl rfl ?_
  refine h_iconst (pc' := 997) (x := (Int32.ofInt 3)) rfl rfl rfl ?_
  refine h_iadd (pc' := 998) rfl rfl hy3 ci_3 rfl (by omega) (by omega) (fun z5 hz5 => ?_)
  refine h_iald (pc' := 999) (v := s0 0 (b3 + 3)) rfl rfl rfl hz5 (by omega) (by omega) rfl (fun z6 hz6 => ?_)
  have tz6 := h_rgv hz6
  refine h_call (sp := false) (pc' := 1002) (M := [(0, .ref 9), (1, .int z2), (2, .int z4), (3, .int z6)]) rfl rfl rfl rfl rfl rfl rfl rfl ?_
  refine w_109_9 _ I0 z2 _ hz2 z4 _ hz4 z6 _ hz6 (fun r7 s8 Is8 Gs8 => h_Kv ?_)
  have Zs8 : ∀ i, s8 0 i = s0 0 i := fun i => (Gs8 0 i rfl).trans rfl
  have Fs8 : h_F (fun _ _ => true) s8 s0 := fun _ _ h => by cases h
  have es8_0 : s8 64 1 = s0 64 1 := (Gs8 64 1 rfl).trans rfl
  have es8_1 : s8 98 11 = s0 98 11 := (Gs8 98 11 rfl).trans rfl
  have es8_2 : s8 64 4 = s0 64 4 := (Gs8 64 4 rfl).trans rfl
  have es8_3 : s8 98 16 = s0 98 16 := (Gs8 98 16 rfl).trans rfl
  have es8_4 : s8 90 2 = s0 90 2 := (Gs8 90 2 rfl).trans rfl
  have es8_5 : s8 98 29 = s0 98 29 := (Gs8 98 29 rfl).trans rfl
  have es8_6 : s8 63 2 = s0 63 2 := (Gs8 63 2 rfl).trans rfl
  refine h_pop2 (pc' := 1003) rfl rfl rfl ?_
  refine h_aload_n (pc' := 1004) rfl rfl rfl ?_
  refine h_aload_n (pc' := 1005) rfl rfl rfl ?_
  refine h_iload_n (pc' := 1006) rfl rfl rfl ?_
  refine h_iconst (pc' := 1007) (x := (Int32.ofInt 1)) rfl rfl rfl ?_
  refine h_iadd (pc' := 1008) rfl rfl hy3 ci_1 rfl (by omega) (by omega) (fun z9 hz9 => ?_)
  refine h_iald (pc' := 1009) (v := s0 0 (b3 + 1)) rfl rfl rfl hz9 (by omega) (by omega) (Zs8 _) (fun z10 hz10 => ?_)
  have tz10 := h_rgv hz10
  refine h_aload_n (pc' := 1010) rfl rfl rfl ?_
  refine h_iload_n (pc' := 1011) rfl rfl rfl ?_
  refine h_iconst (pc' := 1012) (x := (Int32.ofInt 2)) rfl rfl rfl ?_
  refine h_iadd (pc' := 1013) rfl rfl hy3 ci_2 rfl (by omega) (by omega) (fun z11 hz11 => ?_)
  refine h_iald (pc' := 1014) (v := s0 0 (b3 + 2)) rfl rfl rfl hz11 (by omega) (by omega) (Zs8 _) (fun z12 hz12 => ?_)
  have tz12 := h_rgv hz12
  refine h_aload_n (pc' := 1015) rfl rfl rfl ?_
  refine h_iload_n (pc' := 1016) rfl rfl rfl ?_
  refine h_iconst (pc' := 1017) (x := (Int32.ofInt 3)) rfl rfl rfl ?_
  refine h_iadd (pc' := 1018) rfl rfl hy3 ci_3 rfl (by omega) (by omega) (fun z13 hz13 => ?_)
  refine h_iald (pc' := 1019) (v := s0 0 (b3 + 3)) rfl rfl rfl hz13 (by omega) (by omega) (Zs8 _) (fun z14 hz14 => ?_)
  have tz14 := h_rgv hz14
  refine h_call (sp := false) (pc' := 1022) (M := [(0, .ref 98), (1, .int z10), (2, .int z12), (3, .int z14)]) rfl rfl rfl rfl rfl rfl rfl rfl ?_
  refine w_208_98 _ Is8 z10 _ hz10 z12 _ hz12 z14 _ hz14 (fun r15 s16 Is16 Gs16 => h_Kv ?_)
  have Zs16 : ∀ i, s16 0 i = s0 0 i := fun i => (Gs16 0 i rfl).trans (Zs8 i)
  have Fs16 : h_F (fun _ _ => true) s16 s0 := fun _ _ h => by cases h
  have es16_0 : s16 64 1 = s0 64 1 := (Gs16 64 1 rfl).trans es8_0
  have es16_1 : s16 98 11 = s0 98 11 := (Gs16 98 11 rfl).trans es8_1
  have es16_2 : s16 64 4 = s0 64 4 := (Gs16 64 4 rfl).trans es8_2
  have es16_3 : s16 98 16 = s0 98 16 := (Gs16 98 16 rfl).trans es8_3
  have es16_4 : s16 90 2 = s0 90 2 := (Gs16 90 2 rfl).trans es8_4
  have es16_5 : s16 98 29 = s0 98 29 := (Gs16 98 29 rfl).trans es8_5
  have es16_6 : s16 63 2 = s0 63 2 := (Gs16 63 2 rfl).trans es8_6
  clear es8_0 es8_1 es8_2 es8_3 es8_4 es8_5 es8_6
  refine h_pop2 (pc' := 1023) rfl rfl rfl ?_
  refine h_goto (pc' := 1441) rfl rfl ?_
  exact kk _ Is16 (by first | exact d_tape.le j0 (Int.le_antisymm (by omega) (by omega)) (by omega) (fun j => (Gs16 65 j rfl).trans ((Gs8 65 j rfl))) (fun j => (Gs16 102 j rfl).trans ((Gs8 102 j rfl))) | (exfalso; omega)) (Int.le_antisymm (by omega) (by omega)) (Int.le_antisymm (by omega) (by omega))
set_option maxHeartbeats 100000000 in
theorem g_case_1026 {ns : Nat} (hns : ns ≤ 320) (s0 : h_S) (I0 : h_I s0) (j0 : d_tape s0 s0) (j1 : s0 64 4 = s0 98 16) (j2 : s0 90 2 = s0 98 29) (y3 : Int32) (b3 : Int) (hy3 : y3.toInt = b3) (hr : 0 ≤ b3 ∧ b3 + 5 ≤ ns) {Q : Option Value → h_S → Prop} (kk : ∀ τ, h_I τ → (d_tape τ τ) → (τ 64 4 = τ 98 16) → (τ 90 2 = τ 98 29) → h_T g_P (g_Y ns) 225 1441 [(0, .ref 0), (1, .ref 9), (2, .ref 98), (3, .int y3)] [] τ Q) : h_T g_P (g_Y ns) 225 1026 [(0, .ref 0), (1, .ref 9), (2, .ref 98), (3, .int y3)] [] s0 Q := by
  have F0_ : h_F (fun _ _ => true) s0 s0 := h_F.rf
  have j0_ := j0.2
  have i0 := tf_64_1 I0
  have i1 := tf_98_11 I0
  have i2 := tf_64_4 I0
  have i3 := tf_98_16 I0
  have i4 := tf_90_2 I0
  have i5 := tf_98_29 I0
  have i6 := tf_63_2 I0
  refine h_aload_n (pc' := 1027) rfl rfl rfl ?_
  refine h_aload_n (pc' := 1028) rfl rfl rfl ?_
  refine h_iload_n (pc' := 1029) rfl rfl rfl ?_
  refine h_iconst (pc' := 1030) (x := (Int32.ofInt 1)) rfl rfl rfl ?_
  refine h_iadd (pc' := 1031) rfl rfl hy3 ci_1 rfl (by omega) (by omega) (fun z1 hz1 => ?_)
  refine h_iald (pc' := 1032) (v := s0 0 (b3 + 1)) rfl rfl rfl hz1 (by omega) (by omega) rfl (fun z2 hz2 => ?_)
  have tz2 := h_rgv hz2
  refine h_aload_n (pc' := 1033) rfl rfl rfl ?_
  refine h_iload_n (pc' := 1034) rfl rfl rfl ?_
  refine h_iconst (pc' := 1035) (x := (Int32.ofInt 2)) rfl rfl rfl ?_
  refine h_iadd (pc' := 1036) rfl rfl hy3 ci_2 rfl (by omega) (by omega) (fun z3 hz3 => ?_)
  refine h_iald (pc' := 1037) (v := s0 0 (b3 + 2)) rfl rfl rfl hz3 (by omega) (by omega) rfl (fun z4 hz4 => ?_)
  have tz4 := h_rgv hz4
  refine h_zeq (tg := 1044) (pc' := 1040) rfl rfl rfl hz4 (fun c5 => ?_) (fun c5 => ?_)
  · refine h_iconst (pc' := 1045) (x := (Int32.ofInt 0)) rfl rfl rfl ?_
    refine h_call (sp := false) (pc' := 1048) (M := [(0, .ref 9), (1, .int z2), (2, .int (Int32.ofInt 0))]) rfl rfl rfl rfl rfl rfl rfl rfl ?_
    refine h_iload_n (pc' := 1) rfl rfl rfl ?_
    refine h_zlt (tg := 10) (pc' := 4) rfl rfl rfl hz2 (fun c6 => ?_) (fun c6 => ?_)
    · refine h_iconst (pc' := 11) (x := (Int32.ofInt (-1))) rfl rfl rfl ?_
      refine h_iret rfl rfl (h_Kv ?_)
      refine h_aload_n (pc' := 1049) rfl rfl rfl ?_
      refine h_aload_n (pc' := 1050) rfl rfl rfl ?_
      refine h_iload_n (pc' := 1051) rfl rfl rfl ?_
      refine h_iconst (pc' := 1052) (x := (Int32.ofInt 1)) rfl rfl rfl ?_
      refine h_iadd (pc' := 1053) rfl rfl hy3 ci_1 rfl (by omega) (by omega) (fun z7 hz7 => ?_)
      refine h_iald (pc' := 1054) (v := s0 0 (b3 + 1)) rfl rfl rfl hz7 (by omega) (by omega) rfl (fun z8 hz8 => ?_)
      have tz8 := h_rgv hz8
      refine h_aload_n (pc' := 1055) rfl rfl rfl ?_
      refine h_iload_n (pc' := 1056) rfl rfl rfl ?_
      refine h_iconst (pc' := 1057) (x := (Int32.ofInt 2)) rfl rfl rfl ?_
      refine h_iadd (pc' := 1058) rfl rfl hy3 ci_2 rfl (by omega) (by omega) (fun z9 hz9 => ?_)
      refine h_iald (pc' := 1059) (v := s0 0 (b3 + 2)) rfl rfl rfl hz9 (by omega) (by omega) rfl (fun z10 hz10 => ?_)
      have tz10 := h_rgv hz10
      refine h_zeq (tg := 1066) (pc' := 1062) rfl rfl rfl hz10 (fun c11 => ?_) (fun c11 => absurd (Int.le_antisymm (by omega) (by omega)) c11)
      refine h_iconst (pc' := 1067) (x := (Int32.ofInt 0)) rfl rfl rfl ?_
      refine h_call (sp := false) (pc' := 1070) (M := [(0, .ref 98), (1, .int z8), (2, .int (Int32.ofInt 0))]) rfl rfl rfl rfl rfl rfl rfl rfl ?_
      refine h_iload_n (pc' := 1) rfl rfl rfl ?_
      refine h_i2l (pc' := 2) rfl rfl hz8 (fun z12 hz12 => ?_)
      refine h_lconst (pc' := 3) (x := (Int64.ofInt 0)) rfl rfl rfl ?_
      refine h_ldc2 (pc' := 6) (x := (Int64.ofInt 7)) rfl rfl rfl ?_
      refine h_calls (pc' := 9) (M := [(0, .long z12), (2, .long (Int64.ofInt 0)), (4, .long (Int64.ofInt 7))]) rfl rfl rfl rfl rfl rfl ?_
      refine h_lload_n (pc' := 1) rfl rfl rfl ?_
      refine h_lload_n (pc' := 2) rfl rfl rfl ?_
      refine h_lcmp (pc' := 3) rfl rfl hz12 cl_0 (fun z13 hz13 => ?_)
      refine h_zlt (tg := 17) (pc' := 6) rfl rfl rfl rfl (fun c14 => ?_) (fun c14 => absurd c14 (by omega))
      replace c14 := (h_lcr hz13).1 c14
      clear hz13
      refine h_iconst (pc' := 18) (x := (Int32.ofInt 0)) rfl rfl rfl ?_
      refine h_zret rfl rfl ci_0 (by omega) (h_Kv ?_)
      refine h_zne (tg := 14) (pc' := 12) rfl rfl rfl ci_0 (fun c15 => absurd (Int.le_antisymm (by omega) (by omega)) c15) (fun c15 => ?_)
      refine h_iconst (pc' := 13) (x := (Int32.ofInt (-1))) rfl rfl rfl ?_
      refine h_iret rfl rfl (h_Kv ?_)
      refine h_ceq (tg := 1441) (pc' := 1073) rfl rfl rfl ci_m1 ci_m1 (fun c16 => ?_) (fun c16 => absurd (Int.le_antisymm (by omega) (by omega)) c16)
      exact kk _ I0 (by first | exact d_tape.le j0 (Int.le_antisymm (by omega) (by omega)) (by omega) (fun j => rfl) (fun j => rfl) | (exfalso; omega)) (Int.le_antisymm (by omega) (by omega)) (Int.le_antisymm (by omega) (by omega))
    · refine h_iload_n (pc' := 5) rfl rfl rfl ?_
      refine h_bipush (pc' := 7) (x := (Int32.ofInt 8)) rfl rfl cb_8 ?_
      refine h_clt (tg := 12) (pc' := 10) rfl rfl rfl hz2 ci_8 (fun c17 => ?_) (fun c17 => ?_)
      · refine h_aload_n (pc' := 13) rfl rfl rfl ?_
        refine h_getR (pc' := 16) rfl rfl rfl rfl rfl ?_
        refine h_iload_n (pc' := 17) rfl rfl rfl ?_
        refine h_iload_n (pc' := 18) rfl rfl rfl ?_
        refine h_call (sp := false) (pc' := 21) (M := [(0, .ref 90), (1, .int z2), (2, .int (Int32.ofInt 0))]) rfl rfl rfl rfl rfl rfl rfl rfl ?_
        refine h_aload_n (pc' := 1) rfl rfl rfl ?_
        refine h_getI (pc' := 4) (v := s0 90 2) rfl rfl rfl rfl rfl rfl (fun z18 hz18 => ?_)
        have tz18 := tf_90_2 I0
        refine h_bipush (pc' := 6) (x := (Int32.ofInt 6)) rfl rfl cb_6 ?_
        refine h_clt (tg := 11) (pc' := 9) rfl rfl rfl hz18 ci_6 (fun c19 => ?_) (fun c19 => ?_)
        · refine h_aload_n (pc' := 12) rfl rfl rfl ?_
          refine h_getR (pc' := 15) rfl rfl rfl rfl rfl ?_
          refine h_aload_n (pc' := 16) rfl rfl rfl ?_
          refine h_getI (pc' := 19) (v := s0 90 2) rfl rfl rfl rfl rfl rfl (fun z20 hz20 => ?_)
          have tz20 := tf_90_2 I0
          refine h_iload_n (pc' := 20) rfl rfl rfl ?_
          refine h_iast (pc' := 21) rfl rfl rfl rfl hz20 (by omega) (by omega) hz2 (h_fgt (E := fun s => s 64 1 = s0 64 1 ∧ s 98 11 = s0 98 11 ∧ s 64 4 = s0 64 4 ∧ s 98 16 = s0 98 16 ∧ s 90 2 = s0 90 2 ∧ s 98 29 = s0 98 29 ∧ s 63 2 = s0 63 2 ∧ s = h_up s0 91 (s0 90 2) (s0 0 (b3 + 1))) _ (in_91 I0 (by omega)) (F0_.up rfl) ⟨rfl, rfl, rfl, rfl, rfl, rfl, rfl, rfl⟩ (fun s21 Is21 Fs21 (es21 : s21 64 1 = s0 64 1 ∧ s21 98 11 = s0 98 11 ∧ s21 64 4 = s0 64 4 ∧ s21 98 16 = s0 98 16 ∧ s21 90 2 = s0 90 2 ∧ s21 98 29 = s0 98 29 ∧ s21 63 2 = s0 63 2 ∧ s21 = h_up s0 91 (s0 90 2) (s0 0 (b3 + 1))) => ?_))
          have us21 := es21.2.2.2.2.2.2.2
          have Zs21 : ∀ i, s21 0 i = s0 0 i := fun i => (h_upo us21 rfl i).trans rfl
          refine h_aload_n (pc' := 22) rfl rfl rfl ?_
          refine h_getR (pc' := 25) rfl rfl rfl rfl rfl ?_
          refine h_aload_n (pc' := 26) rfl rfl rfl ?_
          refine h_getI (pc' := 29) (v := s0 90 2) rfl rfl rfl rfl rfl es21.2.2.2.2.1 (fun z22 hz22 => ?_)
          have tz22 := tf_90_2 I0
          refine h_iload_n (pc' := 30) rfl rfl rfl ?_
          refine h_bast (pc' := 31) rfl rfl rfl rfl hz22 (by omega) (by omega) ci_0 (by omega) (h_fgt (E := fun s => s 64 1 = s0 64 1 ∧ s 98 11 = s0 98 11 ∧ s 64 4 = s0 64 4 ∧ s 98 16 = s0 98 16 ∧ s 90 2 = s0 90 2 ∧ s 98 29 = s0 98 29 ∧ s 63 2 = s0 63 2 ∧ s = h_up s21 92 (s0 90 2) 0) _ (in_92 Is21 (by omega)) (Fs21.up rfl) ⟨es21.1, es21.2.1, es21.2.2.1, es21.2.2.2.1, es21.2.2.2.2.1, es21.2.2.2.2.2.1, es21.2.2.2.2.2.2.1, rfl⟩ (fun s23 Is23 Fs23 (es23 : s23 64 1 = s0 64 1 ∧ s23 98 11 = s0 98 11 ∧ s23 64 4 = s0 64 4 ∧ s23 98 16 = s0 98 16 ∧ s23 90 2 = s0 90 2 ∧ s23 98 29 = s0 98 29 ∧ s23 63 2 = s0 63 2 ∧ s23 = h_up s21 92 (s0 90 2) 0) => ?_))
          clear es21
          have us23 := es23.2.2.2.2.2.2.2
          have Zs23 : ∀ i, s23 0 i = s0 0 i := fun i => (h_upo us23 rfl i).trans (Zs21 i)
          refine h_aload_n (pc' := 32) rfl rfl rfl ?_
          refine h_dup (pc' := 33) rfl rfl rfl ?_
          refine h_getI (pc' := 36) (v := s0 90 2) rfl rfl rfl rfl rfl es23.2.2.2.2.1 (fun z24 hz24 => ?_)
          have tz24 := tf_90_2 I0
          refine h_iconst (pc' := 37) (x := (Int32.ofInt 1)) rfl rfl rfl ?_
          refine h_iadd (pc' := 38) rfl rfl hz24 ci_1 rfl (by omega) (by omega) (fun z25 hz25 => ?_)
          refine h_put (pc' := 41) rfl rfl rfl rfl rfl rfl hz25 rfl (h_fgt (E := fun s => s 64 1 = s0 64 1 ∧ s 98 11 = s0 98 11 ∧ s 64 4 = s0 64 4 ∧ s 98 16 = s0 98 16 ∧ s 90 2 = ((s0 90 2) + 1) ∧ s 98 29 = s0 98 29 ∧ s 63 2 = s0 63 2 ∧ s = h_up s23 90 2 ((s0 90 2) + 1)) _ (if_90_2 Is23 (by omega)) (Fs23.up rfl) ⟨es23.1, es23.2.1, es23.2.2.1, es23.2.2.2.1, rfl, es23.2.2.2.2.2.1, es23.2.2.2.2.2.2.1, rfl⟩ (fun s26 Is26 Fs26 (es26 : s26 64 1 = s0 64 1 ∧ s26 98 11 = s0 98 11 ∧ s26 64 4 = s0 64 4 ∧ s26 98 16 = s0 98 16 ∧ s26 90 2 = ((s0 90 2) + 1) ∧ s26 98 29 = s0 98 29 ∧ s26 63 2 = s0 63 2 ∧ s26 = h_up s23 90 2 ((s0 90 2) + 1)) => ?_))
          clear es23
          have us26 := es26.2.2.2.2.2.2.2
          have Zs26 : ∀ i, s26 0 i = s0 0 i := fun i => (h_upo us26 rfl i).trans (Zs23 i)
          refine h_iconst (pc' := 42) (x := (Int32.ofInt 1)) rfl rfl rfl ?_
          refine h_zret rfl rfl ci_1 (by omega) (h_Kv ?_)
          refine h_zeq (tg := 34) (pc' := 24) rfl rfl rfl ci_1 (fun c27 => absurd c27 (by omega)) (fun c27 => ?_)
          refine h_aload_n (pc' := 25) rfl rfl rfl ?_
          refine h_getR (pc' := 28) rfl rfl rfl rfl rfl ?_
          refine h_getI (pc' := 31) (v := ((s0 90 2) + 1)) rfl rfl rfl rfl rfl es26.2.2.2.2.1 (fun z28 hz28 => ?_)
          refine h_goto (pc' := 36) rfl rfl ?_
          refine h_iret rfl rfl (h_Kv ?_)
          refine h_aload_n (pc' := 1049) rfl rfl rfl ?_
          refine h_aload_n (pc' := 1050) rfl rfl rfl ?_
          refine h_iload_n (pc' := 1051) rfl rfl rfl ?_
          refine h_iconst (pc' := 1052) (x := (Int32.ofInt 1)) rfl rfl rfl ?_
          refine h_iadd (pc' := 1053) rfl rfl hy3 ci_1 rfl (by omega) (by omega) (fun z29 hz29 => ?_)
          refine h_iald (pc' := 1054) (v := s0 0 (b3 + 1)) rfl rfl rfl hz29 (by omega) (by omega) (Zs26 _) (fun z30 hz30 => ?_)
          have tz30 := h_rgv hz30
          refine h_aload_n (pc' := 1055) rfl rfl rfl ?_
          refine h_iload_n (pc' := 1056) rfl rfl rfl ?_
          refine h_iconst (pc' := 1057) (x := (Int32.ofInt 2)) rfl rfl rfl ?_
          refine h_iadd (pc' := 1058) rfl rfl hy3 ci_2 rfl (by omega) (by omega) (fun z31 hz31 => ?_)
          refine h_iald (pc' := 1059) (v := s0 0 (b3 + 2)) rfl rfl rfl hz31 (by omega) (by omega) (Zs26 _) (fun z32 hz32 => ?_)
          have tz32 := h_rgv hz32
          refine h_zeq (tg := 1066) (pc' := 1062) rfl rfl rfl hz32 (fun c33 => ?_) (fun c33 => absurd (Int.le_antisymm (by omega) (by omega)) c33)
          refine h_iconst (pc' := 1067) (x := (Int32.ofInt 0)) rfl rfl rfl ?_
          refine h_call (sp := false) (pc' := 1070) (M := [(0, .ref 98), (1, .int z30), (2, .int (Int32.ofInt 0))]) rfl rfl rfl rfl rfl rfl rfl rfl ?_
          refine h_iload_n (pc' := 1) rfl rfl rfl ?_
          refine h_i2l (pc' := 2) rfl rfl hz30 (fun z34 hz34 => ?_)
          refine h_lconst (pc' := 3) (x := (Int64.ofInt 0)) rfl rfl rfl ?_
          refine h_ldc2 (pc' := 6) (x := (Int64.ofInt 7)) rfl rfl rfl ?_
          refine h_calls (pc' := 9) (M := [(0, .long z34), (2, .long (Int64.ofInt 0)), (4, .long (Int64.ofInt 7))]) rfl rfl rfl rfl rfl rfl ?_
          refine h_lload_n (pc' := 1) rfl rfl rfl ?_
          refine h_lload_n (pc' := 2) rfl rfl rfl ?_
          refine h_lcmp (pc' := 3) rfl rfl hz34 cl_0 (fun z35 hz35 => ?_)
          refine h_zlt (tg := 17) (pc' := 6) rfl rfl rfl rfl (fun c36 => absurd c36 (by omega)) (fun c36 => ?_)
          replace c36 := (h_lcr hz35).2.1 c36
          clear hz35
          refine h_lload_n (pc' := 7) rfl rfl rfl ?_
          refine h_lload (pc' := 9) rfl rfl rfl ?_
          refine h_lcmp (pc' := 10) rfl rfl hz34 cl_7 (fun z37 hz37 => ?_)
          refine h_zgt (tg := 17) (pc' := 13) rfl rfl rfl rfl (fun c38 => absurd c38 (by omega)) (fun c38 => ?_)
          replace c38 := (h_lcr hz37).2.2.1 c38
          clear hz37
          refine h_iconst (pc' := 14) (x := (Int32.ofInt 1)) rfl rfl rfl ?_
          refine h_goto (pc' := 18) rfl rfl ?_
          refine h_zret rfl rfl ci_1 (by omega) (h_Kv ?_)
          refine h_zne (tg := 14) (pc' := 12) rfl rfl rfl ci_1 (fun c39 => ?_) (fun c39 => absurd c39 (by omega))
          refine h_aload_n (pc' := 15) rfl rfl rfl ?_
          refine h_getI (pc' := 18) (v := s0 98 29) rfl rfl rfl rfl rfl es26.2.2.2.2.2.1 (fun z40 hz40 => ?_)
          have tz40 := tf_98_29 I0
          refine h_bipush (pc' := 20) (x := (Int32.ofInt 6)) rfl rfl cb_6 ?_
          refine h_cne (tg := 26) (pc' := 23) rfl rfl rfl hz40 ci_6 (fun c41 => ?_) (fun c41 => absurd c41 (by omega))
          refine h_aload_n (pc' := 27) rfl rfl rfl ?_
          refine h_getR (pc' := 30) rfl rfl rfl rfl rfl ?_
          refine h_iconst (pc' := 31) (x := (Int32.ofInt 2)) rfl rfl rfl ?_
          refine h_aload_n (pc' := 32) rfl rfl rfl ?_
          refine h_getI (pc' := 35) (v := s0 98 29) rfl rfl rfl rfl rfl es26.2.2.2.2.2.1 (fun z42 hz42 => ?_)
          have tz42 := tf_98_29 I0
          refine h_imul (pc' := 36) rfl rfl ci_2 hz42 rfl (by omega) (by omega) (fun z43 hz43 => ?_)
          refine h_iload_n (pc' := 37) rfl rfl rfl ?_
          refine h_iast (pc' := 38) rfl rfl rfl rfl hz43 (by omega) (by omega) hz30 (h_fgt (E := fun s => s 64 1 = s0 64 1 ∧ s 98 11 = s0 98 11 ∧ s 64 4 = s0 64 4 ∧ s 98 16 = s0 98 16 ∧ s 90 2 = ((s0 90 2) + 1) ∧ s 98 29 = s0 98 29 ∧ s 63 2 = s0 63 2 ∧ s = h_up s26 108 (2 * (s0 98 29)) (s0 0 (b3 + 1))) _ (in_108 Is26 (h_rgv hz30)) (Fs26.up rfl) ⟨es26.1, es26.2.1, es26.2.2.1, es26.2.2.2.1, es26.2.2.2.2.1, es26.2.2.2.2.2.1, es26.2.2.2.2.2.2.1, rfl⟩ (fun s44 Is44 Fs44 (es44 : s44 64 1 = s0 64 1 ∧ s44 98 11 = s0 98 11 ∧ s44 64 4 = s0 64 4 ∧ s44 98 16 = s0 98 16 ∧ s44 90 2 = ((s0 90 2) + 1) ∧ s44 98 29 = s0 98 29 ∧ s44 63 2 = s0 63 2 ∧ s44 = h_up s26 108 (2 * (s0 98 29)) (s0 0 (b3 + 1))) => ?_))
          clear es26
          have us44 := es44.2.2.2.2.2.2.2
          have Zs44 : ∀ i, s44 0 i = s0 0 i := fun i => (h_upo us44 rfl i).trans (Zs26 i)
          refine h_aload_n (pc' := 39) rfl rfl rfl ?_
          refine h_getR (pc' := 42) rfl rfl rfl rfl rfl ?_
          refine h_iconst (pc' := 43) (x := (Int32.ofInt 2)) rfl rfl rfl ?_
          refine h_aload_n (pc' := 44) rfl rfl rfl ?_
          refine h_getI (pc' := 47) (v := s0 98 29) rfl rfl rfl rfl rfl es44.2.2.2.2.2.1 (fun z45 hz45 => ?_)
          have tz45 := tf_98_29 I0
          refine h_imul (pc' := 48) rfl rfl ci_2 hz45 rfl (by omega) (by omega) (fun z46 hz46 => ?_)
          refine h_iconst (pc' := 49) (x := (Int32.ofInt 1)) rfl rfl rfl ?_
          refine h_iadd (pc' := 50) rfl rfl hz46 ci_1 rfl (by omega) (by omega) (fun z47 hz47 => ?_)
          refine h_iload_n (pc' := 51) rfl rfl rfl ?_
          refine h_zeq (tg := 58) (pc' := 54) rfl rfl rfl ci_0 (fun c48 => ?_) (fun c48 => absurd (Int.le_antisymm (by omega) (by omega)) c48)
          refine h_iconst (pc' := 59) (x := (Int32.ofInt 0)) rfl rfl rfl ?_
          refine h_iast (pc' := 60) rfl rfl rfl rfl hz47 (by omega) (by omega) ci_0 (h_fgt (E := fun s => s 64 1 = s0 64 1 ∧ s 98 11 = s0 98 11 ∧ s 64 4 = s0 64 4 ∧ s 98 16 = s0 98 16 ∧ s 90 2 = ((s0 90 2) + 1) ∧ s 98 29 = s0 98 29 ∧ s 63 2 = s0 63 2 ∧ s = h_up s44 108 ((2 * (s0 98 29)) + 1) 0) _ (in_108 Is44 (h_rgv ci_0)) (Fs44.up rfl) ⟨es44.1, es44.2.1, es44.2.2.1, es44.2.2.2.1, es44.2.2.2.2.1, es44.2.2.2.2.2.1, es44.2.2.2.2.2.2.1, rfl⟩ (fun s49 Is49 Fs49 (es49 : s49 64 1 = s0 64 1 ∧ s49 98 11 = s0 98 11 ∧ s49 64 4 = s0 64 4 ∧ s49 98 16 = s0 98 16 ∧ s49 90 2 = ((s0 90 2) + 1) ∧ s49 98 29 = s0 98 29 ∧ s49 63 2 = s0 63 2 ∧ s49 = h_up s44 108 ((2 * (s0 98 29)) + 1) 0) => ?_))
          clear es44
          have us49 := es49.2.2.2.2.2.2.2
          have Zs49 : ∀ i, s49 0 i = s0 0 i := fun i => (h_upo us49 rfl i).trans (Zs44 i)
          refine h_aload_n (pc' := 61) rfl rfl rfl ?_
          refine h_dup (pc' := 62) rfl rfl rfl ?_
          refine h_getI (pc' := 65) (v := s0 98 29) rfl rfl rfl rfl rfl es49.2.2.2.2.2.1 (fun z50 hz50 => ?_)
          have tz50 := tf_98_29 I0
          refine h_iconst (pc' := 66) (x := (Int32.ofInt 1)) rfl rfl rfl ?_
          refine h_iadd (pc' := 67) rfl rfl hz50 ci_1 rfl (by omega) (by omega) (fun z51 hz51 => ?_)
          refine h_put (pc' := 70) rfl rfl rfl rfl rfl rfl hz51 rfl (h_fgt (E := fun s => s 64 1 = s0 64 1 ∧ s 98 11 = s0 98 11 ∧ s 64 4 = s0 64 4 ∧ s 98 16 = s0 98 16 ∧ s 90 2 = ((s0 90 2) + 1) ∧ s 98 29 = ((s0 98 29) + 1) ∧ s 63 2 = s0 63 2 ∧ s = h_up s49 98 29 ((s0 98 29) + 1)) _ (if_98_29 Is49 (by omega)) (Fs49.up rfl) ⟨es49.1, es49.2.1, es49.2.2.1, es49.2.2.2.1, es49.2.2.2.2.1, rfl, es49.2.2.2.2.2.2.1, rfl⟩ (fun s52 Is52 Fs52 (es52 : s52 64 1 = s0 64 1 ∧ s52 98 11 = s0 98 11 ∧ s52 64 4 = s0 64 4 ∧ s52 98 16 = s0 98 16 ∧ s52 90 2 = ((s0 90 2) + 1) ∧ s52 98 29 = ((s0 98 29) + 1) ∧ s52 63 2 = s0 63 2 ∧ s52 = h_up s49 98 29 ((s0 98 29) + 1)) => ?_))
          clear es49
          have us52 := es52.2.2.2.2.2.2.2
          have Zs52 : ∀ i, s52 0 i = s0 0 i := fun i => (h_upo us52 rfl i).trans (Zs49 i)
          refine h_aload_n (pc' := 71) rfl rfl rfl ?_
          refine h_getI (pc' := 74) (v := ((s0 98 29) + 1)) rfl rfl rfl rfl rfl es52.2.2.2.2.2.1 (fun z53 hz53 => ?_)
          refine h_iret rfl rfl (h_Kv ?_)
          refine h_ceq (tg := 1441) (pc' := 1073) rfl rfl rfl hz28 hz53 (fun c54 => ?_) (fun c54 => absurd (Int.le_antisymm (by omega) (by omega)) c54)
          exact kk _ Is52 (by first | exact d_tape.le j0 (Int.le_antisymm (by omega) (by omega)) (by omega) (fun j => (h_upo us52 rfl j).trans ((h_upo us49 rfl j).trans ((h_upo us44 rfl j).trans ((h_upo us26 rfl j).trans ((h_upo us23 rfl j).trans ((h_upo us21 rfl j))))))) (fun j => (h_upo us52 rfl j).trans ((h_upo us49 rfl j).trans ((h_upo us44 rfl j).trans ((h_upo us26 rfl j).trans ((h_upo us23 rfl j).trans ((h_upo us21 rfl j))))))) | (exfalso; omega)) (Int.le_antisymm (by omega) (by omega)) (Int.le_antisymm (by omega) (by omega))
        · refine h_iconst (pc' := 10) (x := (Int32.ofInt 0)) rfl rfl rfl ?_
          refine h_zret rfl rfl ci_0 (by omega) (h_Kv ?_)
          refine h_zeq (tg := 34) (pc' := 24) rfl rfl rfl ci_0 (fun c55 => ?_) (fun c55 => absurd (Int.le_antisymm (by omega) (by omega)) c55)
          refine h_bipush (pc' := 36) (x := (Int32.ofInt (-3))) rfl rfl cb_m3 ?_
          refine h_iret rfl rfl (h_Kv ?_)
          refine h_aload_n (pc' := 1049) rfl rfl rfl ?_
          refine h_aload_n (pc' := 1050) rfl rfl rfl ?_
          refine h_iload_n (pc' := 1051) rfl rfl rfl ?_
          refine h_iconst (pc' := 1052) (x := (Int32.ofInt 1)) rfl rfl rfl ?_
          refine h_iadd (pc' := 1053) rfl rfl hy3 ci_1 rfl (by omega) (by omega) (fun z56 hz56 => ?_)
          refine h_iald (pc' := 1054) (v := s0 0 (b3 + 1)) rfl rfl rfl hz56 (by omega) (by omega) rfl (fun z57 hz57 => ?_)
          have tz57 := h_rgv hz57
          refine h_aload_n (pc' := 1055) rfl rfl rfl ?_
          refine h_iload_n (pc' := 1056) rfl rfl rfl ?_
          refine h_iconst (pc' := 1057) (x := (Int32.ofInt 2)) rfl rfl rfl ?_
          refine h_iadd (pc' := 1058) rfl rfl hy3 ci_2 rfl (by omega) (by omega) (fun z58 hz58 => ?_)
          refine h_iald (pc' := 1059) (v := s0 0 (b3 + 2)) rfl rfl rfl hz58 (by omega) (by omega) rfl (fun z59 hz59 => ?_)
          have tz59 := h_rgv hz59
          refine h_zeq (tg := 1066) (pc' := 1062) rfl rfl rfl hz59 (fun c60 => ?_) (fun c60 => absurd (Int.le_antisymm (by omega) (by omega)) c60)
          refine h_iconst (pc' := 1067) (x := (Int32.ofInt 0)) rfl rfl rfl ?_
          refine h_call (sp := false) (pc' := 1070) (M := [(0, .ref 98), (1, .int z57), (2, .int (Int32.ofInt 0))]) rfl rfl rfl rfl rfl rfl rfl rfl ?_
          refine h_iload_n (pc' := 1) rfl rfl rfl ?_
          refine h_i2l (pc' := 2) rfl rfl hz57 (fun z61 hz61 => ?_)
          refine h_lconst (pc' := 3) (x := (Int64.ofInt 0)) rfl rfl rfl ?_
          refine h_ldc2 (pc' := 6) (x := (Int64.ofInt 7)) rfl rfl rfl ?_
          refine h_calls (pc' := 9) (M := [(0, .long z61), (2, .long (Int64.ofInt 0)), (4, .long (Int64.ofInt 7))]) rfl rfl rfl rfl rfl rfl ?_
          refine h_lload_n (pc' := 1) rfl rfl rfl ?_
          refine h_lload_n (pc' := 2) rfl rfl rfl ?_
          refine h_lcmp (pc' := 3) rfl rfl hz61 cl_0 (fun z62 hz62 => ?_)
          refine h_zlt (tg := 17) (pc' := 6) rfl rfl rfl rfl (fun c63 => absurd c63 (by omega)) (fun c63 => ?_)
          replace c63 := (h_lcr hz62).2.1 c63
          clear hz62
          refine h_lload_n (pc' := 7) rfl rfl rfl ?_
          refine h_lload (pc' := 9) rfl rfl rfl ?_
          refine h_lcmp (pc' := 10) rfl rfl hz61 cl_7 (fun z64 hz64 => ?_)
          refine h_zgt (tg := 17) (pc' := 13) rfl rfl rfl rfl (fun c65 => absurd c65 (by omega)) (fun c65 => ?_)
          replace c65 := (h_lcr hz64).2.2.1 c65
          clear hz64
          refine h_iconst (pc' := 14) (x := (Int32.ofInt 1)) rfl rfl rfl ?_
          refine h_goto (pc' := 18) rfl rfl ?_
          refine h_zret rfl rfl ci_1 (by omega) (h_Kv ?_)
          refine h_zne (tg := 14) (pc' := 12) rfl rfl rfl ci_1 (fun c66 => ?_) (fun c66 => absurd c66 (by omega))
          refine h_aload_n (pc' := 15) rfl rfl rfl ?_
          refine h_getI (pc' := 18) (v := s0 98 29) rfl rfl rfl rfl rfl rfl (fun z67 hz67 => ?_)
          have tz67 := tf_98_29 I0
          refine h_bipush (pc' := 20) (x := (Int32.ofInt 6)) rfl rfl cb_6 ?_
          refine h_cne (tg := 26) (pc' := 23) rfl rfl rfl hz67 ci_6 (fun c68 => absurd (Int.le_antisymm (by omega) (by omega)) c68) (fun c68 => ?_)
          refine h_bipush (pc' := 25) (x := (Int32.ofInt (-3))) rfl rfl cb_m3 ?_
          refine h_iret rfl rfl (h_Kv ?_)
          refine h_ceq (tg := 1441) (pc' := 1073) rfl rfl rfl ci_m3 ci_m3 (fun c69 => ?_) (fun c69 => absurd (Int.le_antisymm (by omega) (by omega)) c69)
          exact kk _ I0 (by first | exact d_tape.le j0 (Int.le_antisymm (by omega) (by omega)) (by omega) (fun j => rfl) (fun j => rfl) | (exfalso; omega)) (Int.le_antisymm (by omega) (by omega)) (Int.le_antisymm (by omega) (by omega))
      · refine h_iconst (pc' := 11) (x := (Int32.ofInt (-1))) rfl rfl rfl ?_
        refine h_iret rfl rfl (h_Kv ?_)
        refine h_aload_n (pc' := 1049) rfl rfl rfl ?_
        refine h_aload_n (pc' := 1050) rfl rfl rfl ?_
        refine h_iload_n (pc' := 1051) rfl rfl rfl ?_
        refine h_iconst (pc' := 1052) (x := (Int32.ofInt 1)) rfl rfl rfl ?_
        refine h_iadd (pc' := 1053) rfl rfl hy3 ci_1 rfl (by omega) (by omega) (fun z70 hz70 => ?_)
        refine h_iald (pc' := 1054) (v := s0 0 (b3 + 1)) rfl rfl rfl hz70 (by omega) (by omega) rfl (fun z71 hz71 => ?_)
        have tz71 := h_rgv hz71
        refine h_aload_n (pc' := 1055) rfl rfl rfl ?_
        refine h_iload_n (pc' := 1056) rfl rfl rfl ?_
        refine h_iconst (pc' := 1057) (x := (Int32.ofInt 2)) rfl rfl rfl ?_
        refine h_iadd (pc' := 1058) rfl rfl hy3 ci_2 rfl (by omega) (by omega) (fun z72 hz72 => ?_)
        refine h_iald (pc' := 1059) (v := s0 0 (b3 + 2)) rfl rfl rfl hz72 (by omega) (by omega) rfl (fun z73 hz73 => ?_)
        have tz73 := h_rgv hz73
        refine h_zeq (tg := 1066) (pc' := 1062) rfl rfl rfl hz73 (fun c74 => ?_) (fun c74 => absurd (Int.le_antisymm (by omega) (by omega)) c74)
        refine h_iconst (pc' := 1067) (x := (Int32.ofInt 0)) rfl rfl rfl ?_
        refine h_call (sp := false) (pc' := 1070) (M := [(0, .ref 98), (1, .int z71), (2, .int (Int32.ofInt 0))]) rfl rfl rfl rfl rfl rfl rfl rfl ?_
        refine h_iload_n (pc' := 1) rfl rfl rfl ?_
        refine h_i2l (pc' := 2) rfl rfl hz71 (fun z75 hz75 => ?_)
        refine h_lconst (pc' := 3) (x := (Int64.ofInt 0)) rfl rfl rfl ?_
        refine h_ldc2 (pc' := 6) (x := (Int64.ofInt 7)) rfl rfl rfl ?_
        refine h_calls (pc' := 9) (M := [(0, .long z75), (2, .long (Int64.ofInt 0)), (4, .long (Int64.ofInt 7))]) rfl rfl rfl rfl rfl rfl ?_
        refine h_lload_n (pc' := 1) rfl rfl rfl ?_
        refine h_lload_n (pc' := 2) rfl rfl rfl ?_
        refine h_lcmp (pc' := 3) rfl rfl hz75 cl_0 (fun z76 hz76 => ?_)
        refine h_zlt (tg := 17) (pc' := 6) rfl rfl rfl rfl (fun c77 => absurd c77 (by omega)) (fun c77 => ?_)
        replace c77 := (h_lcr hz76).2.1 c77
        clear hz76
        refine h_lload_n (pc' := 7) rfl rfl rfl ?_
        refine h_lload (pc' := 9) rfl rfl rfl ?_
        refine h_lcmp (pc' := 10) rfl rfl hz75 cl_7 (fun z78 hz78 => ?_)
        refine h_zgt (tg := 17) (pc' := 13) rfl rfl rfl rfl (fun c79 => ?_) (fun c79 => absurd c79 (by omega))
        replace c79 := (h_lcr hz78).2.2.2.1 c79
        clear hz78
        refine h_iconst (pc' := 18) (x := (Int32.ofInt 0)) rfl rfl rfl ?_
        refine h_zret rfl rfl ci_0 (by omega) (h_Kv ?_)
        refine h_zne (tg := 14) (pc' := 12) rfl rfl rfl ci_0 (fun c80 => absurd (Int.le_antisymm (by omega) (by omega)) c80) (fun c80 => ?_)
        refine h_iconst (pc' := 13) (x := (Int32.ofInt (-1))) rfl rfl rfl ?_
        refine h_iret rfl rfl (h_Kv ?_)
        refine h_ceq (tg := 1441) (pc' := 1073) rfl rfl rfl ci_m1 ci_m1 (fun c81 => ?_) (fun c81 => absurd (Int.le_antisymm (by omega) (by omega)) c81)
        exact kk _ I0 (by first | exact d_tape.le j0 (Int.le_antisymm (by omega) (by omega)) (by omega) (fun j => rfl) (fun j => rfl) | (exfalso; omega)) (Int.le_antisymm (by omega) (by omega)) (Int.le_antisymm (by omega) (by omega))
  · refine h_iconst (pc' := 1041) (x := (Int32.ofInt 1)) rfl rfl rfl ?_
    refine h_goto (pc' := 1045) rfl rfl ?_
    refine h_call (sp := false) (pc' := 1048) (M := [(0, .ref 9), (1, .int z2), (2, .int (Int32.ofInt 1))]) rfl rfl rfl rfl rfl rfl rfl rfl ?_
    refine h_iload_n (pc' := 1) rfl rfl rfl ?_
    refine h_zlt (tg := 10) (pc' := 4) rfl rfl rfl hz2 (fun c82 => ?_) (fun c82 => ?_)
    · refine h_iconst (pc' := 11) (x := (Int32.ofInt (-1))) rfl rfl rfl ?_
      refine h_iret rfl rfl (h_Kv ?_)
      refine h_aload_n (pc' := 1049) rfl rfl rfl ?_
      refine h_aload_n (pc' := 1050) rfl rfl rfl ?_
      refine h_iload_n (pc' := 1051) rfl rfl rfl ?_
      refine h_iconst (pc' := 1052) (x := (Int32.ofInt 1)) rfl rfl rfl ?_
      refine h_iadd (pc' := 1053) rfl rfl hy3 ci_1 rfl (by omega) (by omega) (fun z83 hz83 => ?_)
      refine h_iald (pc' := 1054) (v := s0 0 (b3 + 1)) rfl rfl rfl hz83 (by omega) (by omega) rfl (fun z84 hz84 => ?_)
      have tz84 := h_rgv hz84
      refine h_aload_n (pc' := 1055) rfl rfl rfl ?_
      refine h_iload_n (pc' := 1056) rfl rfl rfl ?_
      refine h_iconst (pc' := 1057) (x := (Int32.ofInt 2)) rfl rfl rfl ?_
      refine h_iadd (pc' := 1058) rfl rfl hy3 ci_2 rfl (by omega) (by omega) (fun z85 hz85 => ?_)
      refine h_iald (pc' := 1059) (v := s0 0 (b3 + 2)) rfl rfl rfl hz85 (by omega) (by omega) rfl (fun z86 hz86 => ?_)
      have tz86 := h_rgv hz86
      refine h_zeq (tg := 1066) (pc' := 1062) rfl rfl rfl hz86 (fun c87 => absurd c87 (by omega)) (fun c87 => ?_)
      refine h_iconst (pc' := 1063) (x := (Int32.ofInt 1)) rfl rfl rfl ?_
      refine h_goto (pc' := 1067) rfl rfl ?_
      refine h_call (sp := false) (pc' := 1070) (M := [(0, .ref 98), (1, .int z84), (2, .int (Int32.ofInt 1))]) rfl rfl rfl rfl rfl rfl rfl rfl ?_
      refine h_iload_n (pc' := 1) rfl rfl rfl ?_
      refine h_i2l (pc' := 2) rfl rfl hz84 (fun z88 hz88 => ?_)
      refine h_lconst (pc' := 3) (x := (Int64.ofInt 0)) rfl rfl rfl ?_
      refine h_ldc2 (pc' := 6) (x := (Int64.ofInt 7)) rfl rfl rfl ?_
      refine h_calls (pc' := 9) (M := [(0, .long z88), (2, .long (Int64.ofInt 0)), (4, .long (Int64.ofInt 7))]) rfl rfl rfl rfl rfl rfl ?_
      refine h_lload_n (pc' := 1) rfl rfl rfl ?_
      refine h_lload_n (pc' := 2) rfl rfl rfl ?_
      refine h_lcmp (pc' := 3) rfl rfl hz88 cl_0 (fun z89 hz89 => ?_)
      refine h_zlt (tg := 17) (pc' := 6) rfl rfl rfl rfl (fun c90 => ?_) (fun c90 => absurd c90 (by omega))
      replace c90 := (h_lcr hz89).1 c90
      clear hz89
      refine h_iconst (pc' := 18) (x := (Int32.ofInt 0)) rfl rfl rfl ?_
      refine h_zret rfl rfl ci_0 (by omega) (h_Kv ?_)
      refine h_zne (tg := 14) (pc' := 12) rfl rfl rfl ci_0 (fun c91 => absurd (Int.le_antisymm (by omega) (by omega)) c91) (fun c91 => ?_)
      refine h_iconst (pc' := 13) (x := (Int32.ofInt (-1))) rfl rfl rfl ?_
      refine h_iret rfl rfl (h_Kv ?_)
      refine h_ceq (tg := 1441) (pc' := 1073) rfl rfl rfl ci_m1 ci_m1 (fun c92 => ?_) (fun c92 => absurd (Int.le_antisymm (by omega) (by omega)) c92)
      exact kk _ I0 (by first | exact d_tape.le j0 (Int.le_antisymm (by omega) (by omega)) (by omega) (fun j => rfl) (fun j => rfl) | (exfalso; omega)) (Int.le_antisymm (by omega) (by omega)) (Int.le_antisymm (by omega) (by omega))
    · refine h_iload_n (pc' := 5) rfl rfl rfl ?_
      refine h_bipush (pc' := 7) (x := (Int32.ofInt 8)) rfl rfl cb_8 ?_
      refine h_clt (tg := 12) (pc' := 10) rfl rfl rfl hz2 ci_8 (fun c93 => ?_) (fun c93 => ?_)
      · refine h_aload_n (pc' := 13) rfl rfl rfl ?_
        refine h_getR (pc' := 16) rfl rfl rfl rfl rfl ?_
        refine h_iload_n (pc' := 17) rfl rfl rfl ?_
        refine h_iload_n (pc' := 18) rfl rfl rfl ?_
        refine h_call (sp := false) (pc' := 21) (M := [(0, .ref 90), (1, .int z2), (2, .int (Int32.ofInt 1))]) rfl rfl rfl rfl rfl rfl rfl rfl ?_
        refine h_aload_n (pc' := 1) rfl rfl rfl ?_
        refine h_getI (pc' := 4) (v := s0 90 2) rfl rfl rfl rfl rfl rfl (fun z94 hz94 => ?_)
        have tz94 := tf_90_2 I0
        refine h_bipush (pc' := 6) (x := (Int32.ofInt 6)) rfl rfl cb_6 ?_
        refine h_clt (tg := 11) (pc' := 9) rfl rfl rfl hz94 ci_6 (fun c95 => ?_) (fun c95 => ?_)
        · refine h_aload_n (pc' := 12) rfl rfl rfl ?_
          refine h_getR (pc' := 15) rfl rfl rfl rfl rfl ?_
          refine h_aload_n (pc' := 16) rfl rfl rfl ?_
          refine h_getI (pc' := 19) (v := s0 90 2) rfl rfl rfl rfl rfl rfl (fun z96 hz96 => ?_)
          have tz96 := tf_90_2 I0
          refine h_iload_n (pc' := 20) rfl rfl rfl ?_
          refine h_iast (pc' := 21) rfl rfl rfl rfl hz96 (by omega) (by omega) hz2 (h_fgt (E := fun s => s 64 1 = s0 64 1 ∧ s 98 11 = s0 98 11 ∧ s 64 4 = s0 64 4 ∧ s 98 16 = s0 98 16 ∧ s 90 2 = s0 90 2 ∧ s 98 29 = s0 98 29 ∧ s 63 2 = s0 63 2 ∧ s = h_up s0 91 (s0 90 2) (s0 0 (b3 + 1))) _ (in_91 I0 (by omega)) (F0_.up rfl) ⟨rfl, rfl, rfl, rfl, rfl, rfl, rfl, rfl⟩ (fun s97 Is97 Fs97 (es97 : s97 64 1 = s0 64 1 ∧ s97 98 11 = s0 98 11 ∧ s97 64 4 = s0 64 4 ∧ s97 98 16 = s0 98 16 ∧ s97 90 2 = s0 90 2 ∧ s97 98 29 = s0 98 29 ∧ s97 63 2 = s0 63 2 ∧ s97 = h_up s0 91 (s0 90 2) (s0 0 (b3 + 1))) => ?_))
          have us97 := es97.2.2.2.2.2.2.2
          have Zs97 : ∀ i, s97 0 i = s0 0 i := fun i => (h_upo us97 rfl i).trans rfl
          refine h_aload_n (pc' := 22) rfl rfl rfl ?_
          refine h_getR (pc' := 25) rfl rfl rfl rfl rfl ?_
          refine h_aload_n (pc' := 26) rfl rfl rfl ?_
          refine h_getI (pc' := 29) (v := s0 90 2) rfl rfl rfl rfl rfl es97.2.2.2.2.1 (fun z98 hz98 => ?_)
          have tz98 := tf_90_2 I0
          refine h_iload_n (pc' := 30) rfl rfl rfl ?_
          refine h_bast (pc' := 31) rfl rfl rfl rfl hz98 (by omega) (by omega) ci_1 (by omega) (h_fgt (E := fun s => s 64 1 = s0 64 1 ∧ s 98 11 = s0 98 11 ∧ s 64 4 = s0 64 4 ∧ s 98 16 = s0 98 16 ∧ s 90 2 = s0 90 2 ∧ s 98 29 = s0 98 29 ∧ s 63 2 = s0 63 2 ∧ s = h_up s97 92 (s0 90 2) 1) _ (in_92 Is97 (by omega)) (Fs97.up rfl) ⟨es97.1, es97.2.1, es97.2.2.1, es97.2.2.2.1, es97.2.2.2.2.1, es97.2.2.2.2.2.1, es97.2.2.2.2.2.2.1, rfl⟩ (fun s99 Is99 Fs99 (es99 : s99 64 1 = s0 64 1 ∧ s99 98 11 = s0 98 11 ∧ s99 64 4 = s0 64 4 ∧ s99 98 16 = s0 98 16 ∧ s99 90 2 = s0 90 2 ∧ s99 98 29 = s0 98 29 ∧ s99 63 2 = s0 63 2 ∧ s99 = h_up s97 92 (s0 90 2) 1) => ?_))
          clear es97
          have us99 := es99.2.2.2.2.2.2.2
          have Zs99 : ∀ i, s99 0 i = s0 0 i := fun i => (h_upo us99 rfl i).trans (Zs97 i)
          refine h_aload_n (pc' := 32) rfl rfl rfl ?_
          refine h_dup (pc' := 33) rfl rfl rfl ?_
          refine h_getI (pc' := 36) (v := s0 90 2) rfl rfl rfl rfl rfl es99.2.2.2.2.1 (fun z100 hz100 => ?_)
          have tz100 := tf_90_2 I0
          refine h_iconst (pc' := 37) (x := (Int32.ofInt 1)) rfl rfl rfl ?_
          refine h_iadd (pc' := 38) rfl rfl hz100 ci_1 rfl (by omega) (by omega) (fun z101 hz101 => ?_)
          refine h_put (pc' := 41) rfl rfl rfl rfl rfl rfl hz101 rfl (h_fgt (E := fun s => s 64 1 = s0 64 1 ∧ s 98 11 = s0 98 11 ∧ s 64 4 = s0 64 4 ∧ s 98 16 = s0 98 16 ∧ s 90 2 = ((s0 90 2) + 1) ∧ s 98 29 = s0 98 29 ∧ s 63 2 = s0 63 2 ∧ s = h_up s99 90 2 ((s0 90 2) + 1)) _ (if_90_2 Is99 (by omega)) (Fs99.up rfl) ⟨es99.1, es99.2.1, es99.2.2.1, es99.2.2.2.1, rfl, es99.2.2.2.2.2.1, es99.2.2.2.2.2.2.1, rfl⟩ (fun s102 Is102 Fs102 (es102 : s102 64 1 = s0 64 1 ∧ s102 98 11 = s0 98 11 ∧ s102 64 4 = s0 64 4 ∧ s102 98 16 = s0 98 16 ∧ s102 90 2 = ((s0 90 2) + 1) ∧ s102 98 29 = s0 98 29 ∧ s102 63 2 = s0 63 2 ∧ s102 = h_up s99 90 2 ((s0 90 2) + 1)) => ?_))
          clear es99
          have us102 := es102.2.2.2.2.2.2.2
          have Zs102 : ∀ i, s102 0 i = s0 0 i := fun i => (h_upo us102 rfl i).trans (Zs99 i)
          refine h_iconst (pc' := 42) (x := (Int32.ofInt 1)) rfl rfl rfl ?_
          refine h_zret rfl rfl ci_1 (by omega) (h_Kv ?_)
          refine h_zeq (tg := 34) (pc' := 24) rfl rfl rfl ci_1 (fun c103 => absurd c103 (by omega)) (fun c103 => ?_)
          refine h_aload_n (pc' := 25) rfl rfl rfl ?_
          refine h_getR (pc' := 28) rfl rfl rfl rfl rfl ?_
          refine h_getI (pc' := 31) (v := ((s0 90 2) + 1)) rfl rfl rfl rfl rfl es102.2.2.2.2.1 (fun z104 hz104 => ?_)
          refine h_goto (pc' := 36) rfl rfl ?_
          refine h_iret rfl rfl (h_Kv ?_)
          refine h_aload_n (pc' := 1049) rfl rfl rfl ?_
          refine h_aload_n (pc' := 1050) rfl rfl rfl ?_
          refine h_iload_n (pc' := 1051) rfl rfl rfl ?_
          refine h_iconst (pc' := 1052) (x := (Int32.ofInt 1)) rfl rfl rfl ?_
          refine h_iadd (pc' := 1053) rfl rfl hy3 ci_1 rfl (by omega) (by omega) (fun z105 hz105 => ?_)
          refine h_iald (pc' := 1054) (v := s0 0 (b3 + 1)) rfl rfl rfl hz105 (by omega) (by omega) (Zs102 _) (fun z106 hz106 => ?_)
          have tz106 := h_rgv hz106
          refine h_aload_n (pc' := 1055) rfl rfl rfl ?_
          refine h_iload_n (pc' := 1056) rfl rfl rfl ?_
          refine h_iconst (pc' := 1057) (x := (Int32.ofInt 2)) rfl rfl rfl ?_
          refine h_iadd (pc' := 1058) rfl rfl hy3 ci_2 rfl (by omega) (by omega) (fun z107 hz107 => ?_)
          refine h_iald (pc' := 1059) (v := s0 0 (b3 + 2)) rfl rfl rfl hz107 (by omega) (by omega) (Zs102 _) (fun z108 hz108 => ?_)
          have tz108 := h_rgv hz108
          refine h_zeq (tg := 1066) (pc' := 1062) rfl rfl rfl hz108 (fun c109 => absurd c109 (by omega)) (fun c109 => ?_)
          refine h_iconst (pc' := 1063) (x := (Int32.ofInt 1)) rfl rfl rfl ?_
          refine h_goto (pc' := 1067) rfl rfl ?_
          refine h_call (sp := false) (pc' := 1070) (M := [(0, .ref 98), (1, .int z106), (2, .int (Int32.ofInt 1))]) rfl rfl rfl rfl rfl rfl rfl rfl ?_
          refine h_iload_n (pc' := 1) rfl rfl rfl ?_
          refine h_i2l (pc' := 2) rfl rfl hz106 (fun z110 hz110 => ?_)
          refine h_lconst (pc' := 3) (x := (Int64.ofInt 0)) rfl rfl rfl ?_
          refine h_ldc2 (pc' := 6) (x := (Int64.ofInt 7)) rfl rfl rfl ?_
          refine h_calls (pc' := 9) (M := [(0, .long z110), (2, .long (Int64.ofInt 0)), (4, .long (Int64.ofInt 7))]) rfl rfl rfl rfl rfl rfl ?_
          refine h_lload_n (pc' := 1) rfl rfl rfl ?_
          refine h_lload_n (pc' := 2) rfl rfl rfl ?_
          refine h_lcmp (pc' := 3) rfl rfl hz110 cl_0 (fun z111 hz111 => ?_)
          refine h_zlt (tg := 17) (pc' := 6) rfl rfl rfl rfl (fun c112 => absurd c112 (by omega)) (fun c112 => ?_)
          replace c112 := (h_lcr hz111).2.1 c112
          clear hz111
          refine h_lload_n (pc' := 7) rfl rfl rfl ?_
          refine h_lload (pc' := 9) rfl rfl rfl ?_
          refine h_lcmp (pc' := 10) rfl rfl hz110 cl_7 (fun z113 hz113 => ?_)
          refine h_zgt (tg := 17) (pc' := 13) rfl rfl rfl rfl (fun c114 => absurd c114 (by omega)) (fun c114 => ?_)
          replace c114 := (h_lcr hz113).2.2.1 c114
          clear hz113
          refine h_iconst (pc' := 14) (x := (Int32.ofInt 1)) rfl rfl rfl ?_
          refine h_goto (pc' := 18) rfl rfl ?_
          refine h_zret rfl rfl ci_1 (by omega) (h_Kv ?_)
          refine h_zne (tg := 14) (pc' := 12) rfl rfl rfl ci_1 (fun c115 => ?_) (fun c115 => absurd c115 (by omega))
          refine h_aload_n (pc' := 15) rfl rfl rfl ?_
          refine h_getI (pc' := 18) (v := s0 98 29) rfl rfl rfl rfl rfl es102.2.2.2.2.2.1 (fun z116 hz116 => ?_)
          have tz116 := tf_98_29 I0
          refine h_bipush (pc' := 20) (x := (Int32.ofInt 6)) rfl rfl cb_6 ?_
          refine h_cne (tg := 26) (pc' := 23) rfl rfl rfl hz116 ci_6 (fun c117 => ?_) (fun c117 => absurd c117 (by omega))
          refine h_aload_n (pc' := 27) rfl rfl rfl ?_
          refine h_getR (pc' := 30) rfl rfl rfl rfl rfl ?_
          refine h_iconst (pc' := 31) (x := (Int32.ofInt 2)) rfl rfl rfl ?_
          refine h_aload_n (pc' := 32) rfl rfl rfl ?_
          refine h_getI (pc' := 35) (v := s0 98 29) rfl rfl rfl rfl rfl es102.2.2.2.2.2.1 (fun z118 hz118 => ?_)
          have tz118 := tf_98_29 I0
          refine h_imul (pc' := 36) rfl rfl ci_2 hz118 rfl (by omega) (by omega) (fun z119 hz119 => ?_)
          refine h_iload_n (pc' := 37) rfl rfl rfl ?_
          refine h_iast (pc' := 38) rfl rfl rfl rfl hz119 (by omega) (by omega) hz106 (h_fgt (E := fun s => s 64 1 = s0 64 1 ∧ s 98 11 = s0 98 11 ∧ s 64 4 = s0 64 4 ∧ s 98 16 = s0 98 16 ∧ s 90 2 = ((s0 90 2) + 1) ∧ s 98 29 = s0 98 29 ∧ s 63 2 = s0 63 2 ∧ s = h_up s102 108 (2 * (s0 98 29)) (s0 0 (b3 + 1))) _ (in_108 Is102 (h_rgv hz106)) (Fs102.up rfl) ⟨es102.1, es102.2.1, es102.2.2.1, es102.2.2.2.1, es102.2.2.2.2.1, es102.2.2.2.2.2.1, es102.2.2.2.2.2.2.1, rfl⟩ (fun s120 Is120 Fs120 (es120 : s120 64 1 = s0 64 1 ∧ s120 98 11 = s0 98 11 ∧ s120 64 4 = s0 64 4 ∧ s120 98 16 = s0 98 16 ∧ s120 90 2 = ((s0 90 2) + 1) ∧ s120 98 29 = s0 98 29 ∧ s120 63 2 = s0 63 2 ∧ s120 = h_up s102 108 (2 * (s0 98 29)) (s0 0 (b3 + 1))) => ?_))
          clear es102
          have us120 := es120.2.2.2.2.2.2.2
          have Zs120 : ∀ i, s120 0 i = s0 0 i := fun i => (h_upo us120 rfl i).trans (Zs102 i)
          refine h_aload_n (pc' := 39) rfl rfl rfl ?_
          refine h_getR (pc' := 42) rfl rfl rfl rfl rfl ?_
          refine h_iconst (pc' := 43) (x := (Int32.ofInt 2)) rfl rfl rfl ?_
          refine h_aload_n (pc' := 44) rfl rfl rfl ?_
          refine h_getI (pc' := 47) (v := s0 98 29) rfl rfl rfl rfl rfl es120.2.2.2.2.2.1 (fun z121 hz121 => ?_)
          have tz121 := tf_98_29 I0
          refine h_imul (pc' := 48) rfl rfl ci_2 hz121 rfl (by omega) (by omega) (fun z122 hz122 => ?_)
          refine h_iconst (pc' := 49) (x := (Int32.ofInt 1)) rfl rfl rfl ?_
          refine h_iadd (pc' := 50) rfl rfl hz122 ci_1 rfl (by omega) (by omega) (fun z123 hz123 => ?_)
          refine h_iload_n (pc' := 51) rfl rfl rfl ?_
          refine h_zeq (tg := 58) (pc' := 54) rfl rfl rfl ci_1 (fun c124 => absurd c124 (by omega)) (fun c124 => ?_)
          refine h_iconst (pc' := 55) (x := (Int32.ofInt 1)) rfl rfl rfl ?_
          refine h_goto (pc' := 59) rfl rfl ?_
          refine h_iast (pc' := 60) rfl rfl rfl rfl hz123 (by omega) (by omega) ci_1 (h_fgt (E := fun s => s 64 1 = s0 64 1 ∧ s 98 11 = s0 98 11 ∧ s 64 4 = s0 64 4 ∧ s 98 16 = s0 98 16 ∧ s 90 2 = ((s0 90 2) + 1) ∧ s 98 29 = s0 98 29 ∧ s 63 2 = s0 63 2 ∧ s = h_up s120 108 ((2 * (s0 98 29)) + 1) 1) _ (in_108 Is120 (h_rgv ci_1)) (Fs120.up rfl) ⟨es120.1, es120.2.1, es120.2.2.1, es120.2.2.2.1, es120.2.2.2.2.1, es120.2.2.2.2.2.1, es120.2.2.2.2.2.2.1, rfl⟩ (fun s125 Is125 Fs125 (es125 : s125 64 1 = s0 64 1 ∧ s125 98 11 = s0 98 11 ∧ s125 64 4 = s0 64 4 ∧ s125 98 16 = s0 98 16 ∧ s125 90 2 = ((s0 90 2) + 1) ∧ s125 98 29 = s0 98 29 ∧ s125 63 2 = s0 63 2 ∧ s125 = h_up s120 108 ((2 * (s0 98 29)) + 1) 1) => ?_))
          clear es120
          have us125 := es125.2.2.2.2.2.2.2
          have Zs125 : ∀ i, s125 0 i = s0 0 i := fun i => (h_upo us125 rfl i).trans (Zs120 i)
          refine h_aload_n (pc' := 61) rfl rfl rfl ?_
          refine h_dup (pc' := 62) rfl rfl rfl ?_
          refine h_getI (pc' := 65) (v := s0 98 29) rfl rfl rfl rfl rfl es125.2.2.2.2.2.1 (fun z126 hz126 => ?_)
          have tz126 := tf_98_29 I0
          refine h_iconst (pc' := 66) (x := (Int32.ofInt 1)) rfl rfl rfl ?_
          refine h_iadd (pc' := 67) rfl rfl hz126 ci_1 rfl (by omega) (by omega) (fun z127 hz127 => ?_)
          refine h_put (pc' := 70) rfl rfl rfl rfl rfl rfl hz127 rfl (h_fgt (E := fun s => s 64 1 = s0 64 1 ∧ s 98 11 = s0 98 11 ∧ s 64 4 = s0 64 4 ∧ s 98 16 = s0 98 16 ∧ s 90 2 = ((s0 90 2) + 1) ∧ s 98 29 = ((s0 98 29) + 1) ∧ s 63 2 = s0 63 2 ∧ s = h_up s125 98 29 ((s0 98 29) + 1)) _ (if_98_29 Is125 (by omega)) (Fs125.up rfl) ⟨es125.1, es125.2.1, es125.2.2.1, es125.2.2.2.1, es125.2.2.2.2.1, rfl, es125.2.2.2.2.2.2.1, rfl⟩ (fun s128 Is128 Fs128 (es128 : s128 64 1 = s0 64 1 ∧ s128 98 11 = s0 98 11 ∧ s128 64 4 = s0 64 4 ∧ s128 98 16 = s0 98 16 ∧ s128 90 2 = ((s0 90 2) + 1) ∧ s128 98 29 = ((s0 98 29) + 1) ∧ s128 63 2 = s0 63 2 ∧ s128 = h_up s125 98 29 ((s0 98 29) + 1)) => ?_))
          clear es125
          have us128 := es128.2.2.2.2.2.2.2
          have Zs128 : ∀ i, s128 0 i = s0 0 i := fun i => (h_upo us128 rfl i).trans (Zs125 i)
          refine h_aload_n (pc' := 71) rfl rfl rfl ?_
          refine h_getI (pc' := 74) (v := ((s0 98 29) + 1)) rfl rfl rfl rfl rfl es128.2.2.2.2.2.1 (fun z129 hz129 => ?_)
          refine h_iret rfl rfl (h_Kv ?_)
          refine h_ceq (tg := 1441) (pc' := 1073) rfl rfl rfl hz104 hz129 (fun c130 => ?_) (fun c130 => absurd (Int.le_antisymm (by omega) (by omega)) c130)
          exact kk _ Is128 (by first | exact d_tape.le j0 (Int.le_antisymm (by omega) (by omega)) (by omega) (fun j => (h_upo us128 rfl j).trans ((h_upo us125 rfl j).trans ((h_upo us120 rfl j).trans ((h_upo us102 rfl j).trans ((h_upo us99 rfl j).trans ((h_upo us97 rfl j))))))) (fun j => (h_upo us128 rfl j).trans ((h_upo us125 rfl j).trans ((h_upo us120 rfl j).trans ((h_upo us102 rfl j).trans ((h_upo us99 rfl j).trans ((h_upo us97 rfl j))))))) | (exfalso; omega)) (Int.le_antisymm (by omega) (by omega)) (Int.le_antisymm (by omega) (by omega))
        · refine h_iconst (pc' := 10) (x := (Int32.ofInt 0)) rfl rfl rfl ?_
          refine h_zret rfl rfl ci_0 (by omega) (h_Kv ?_)
          refine h_zeq (tg := 34) (pc' := 24) rfl rfl rfl ci_0 (fun c131 => ?_) (fun c131 => absurd (Int.le_antisymm (by omega) (by omega)) c131)
          refine h_bipush (pc' := 36) (x := (Int32.ofInt (-3))) rfl rfl cb_m3 ?_
          refine h_iret rfl rfl (h_Kv ?_)
          refine h_aload_n (pc' := 1049) rfl rfl rfl ?_
          refine h_aload_n (pc' := 1050) rfl rfl rfl ?_
          refine h_iload_n (pc' := 1051) rfl rfl rfl ?_
          refine h_iconst (pc' := 1052) (x := (Int32.ofInt 1)) rfl rfl rfl ?_
          refine h_iadd (pc' := 1053) rfl rfl hy3 ci_1 rfl (by omega) (by omega) (fun z132 hz132 => ?_)
          refine h_iald (pc' := 1054) (v := s0 0 (b3 + 1)) rfl rfl rfl hz132 (by omega) (by omega) rfl (fun z133 hz133 => ?_)
          have tz133 := h_rgv hz133
          refine h_aload_n (pc' := 1055) rfl rfl rfl ?_
          refine h_iload_n (pc' := 1056) rfl rfl rfl ?_
          refine h_iconst (pc' := 1057) (x := (Int32.ofInt 2)) rfl rfl rfl ?_
          refine h_iadd (pc' := 1058) rfl rfl hy3 ci_2 rfl (by omega) (by omega) (fun z134 hz134 => ?_)
          refine h_iald (pc' := 1059) (v := s0 0 (b3 + 2)) rfl rfl rfl hz134 (by omega) (by omega) rfl (fun z135 hz135 => ?_)
          have tz135 := h_rgv hz135
          refine h_zeq (tg := 1066) (pc' := 1062) rfl rfl rfl hz135 (fun c136 => absurd c136 (by omega)) (fun c136 => ?_)
          refine h_iconst (pc' := 1063) (x := (Int32.ofInt 1)) rfl rfl rfl ?_
          refine h_goto (pc' := 1067) rfl rfl ?_
          refine h_call (sp := false) (pc' := 1070) (M := [(0, .ref 98), (1, .int z133), (2, .int (Int32.ofInt 1))]) rfl rfl rfl rfl rfl rfl rfl rfl ?_
          refine h_iload_n (pc' := 1) rfl rfl rfl ?_
          refine h_i2l (pc' := 2) rfl rfl hz133 (fun z137 hz137 => ?_)
          refine h_lconst (pc' := 3) (x := (Int64.ofInt 0)) rfl rfl rfl ?_
          refine h_ldc2 (pc' := 6) (x := (Int64.ofInt 7)) rfl rfl rfl ?_
          refine h_calls (pc' := 9) (M := [(0, .long z137), (2, .long (Int64.ofInt 0)), (4, .long (Int64.ofInt 7))]) rfl rfl rfl rfl rfl rfl ?_
          refine h_lload_n (pc' := 1) rfl rfl rfl ?_
          refine h_lload_n (pc' := 2) rfl rfl rfl ?_
          refine h_lcmp (pc' := 3) rfl rfl hz137 cl_0 (fun z138 hz138 => ?_)
          refine h_zlt (tg := 17) (pc' := 6) rfl rfl rfl rfl (fun c139 => absurd c139 (by omega)) (fun c139 => ?_)
          replace c139 := (h_lcr hz138).2.1 c139
          clear hz138
          refine h_lload_n (pc' := 7) rfl rfl rfl ?_
          refine h_lload (pc' := 9) rfl rfl rfl ?_
          refine h_lcmp (pc' := 10) rfl rfl hz137 cl_7 (fun z140 hz140 => ?_)
          refine h_zgt (tg := 17) (pc' := 13) rfl rfl rfl rfl (fun c141 => absurd c141 (by omega)) (fun c141 => ?_)
          replace c141 := (h_lcr hz140).2.2.1 c141
          clear hz140
          refine h_iconst (pc' := 14) (x := (Int32.ofInt 1)) rfl rfl rfl ?_
          refine h_goto (pc' := 18) rfl rfl ?_
          refine h_zret rfl rfl ci_1 (by omega) (h_Kv ?_)
          refine h_zne (tg := 14) (pc' := 12) rfl rfl rfl ci_1 (fun c142 => ?_) (fun c142 => absurd c142 (by omega))
          refine h_aload_n (pc' := 15) rfl rfl rfl ?_
          refine h_getI (pc' := 18) (v := s0 98 29) rfl rfl rfl rfl rfl rfl (fun z143 hz143 => ?_)
          have tz143 := tf_98_29 I0
          refine h_bipush (pc' := 20) (x := (Int32.ofInt 6)) rfl rfl cb_6 ?_
          refine h_cne (tg := 26) (pc' := 23) rfl rfl rfl hz143 ci_6 (fun c144 => absurd (Int.le_antisymm (by omega) (by omega)) c144) (fun c144 => ?_)
          refine h_bipush (pc' := 25) (x := (Int32.ofInt (-3))) rfl rfl cb_m3 ?_
          refine h_iret rfl rfl (h_Kv ?_)
          refine h_ceq (tg := 1441) (pc' := 1073) rfl rfl rfl ci_m3 ci_m3 (fun c145 => ?_) (fun c145 => absurd (Int.le_antisymm (by omega) (by omega)) c145)
          exact kk _ I0 (by first | exact d_tape.le j0 (Int.le_antisymm (by omega) (by omega)) (by omega) (fun j => rfl) (fun j => rfl) | (exfalso; omega)) (Int.le_antisymm (by omega) (by omega)) (Int.le_antisymm (by omega) (by omega))
      · refine h_iconst (pc' := 11) (x := (Int32.ofInt (-1))) rfl rfl rfl ?_
        refine h_iret rfl rfl (h_Kv ?_)
        refine h_aload_n (pc' := 1049) rfl rfl rfl ?_
        refine h_aload_n (pc' := 1050) rfl rfl rfl ?_
        refine h_iload_n (pc' := 1051) rfl rfl rfl ?_
        refine h_iconst (pc' := 1052) (x := (Int32.ofInt 1)) rfl rfl rfl ?_
        refine h_iadd (pc' := 1053) rfl rfl hy3 ci_1 rfl (by omega) (by omega) (fun z146 hz146 => ?_)
        refine h_iald (pc' := 1054) (v := s0 0 (b3 + 1)) rfl rfl rfl hz146 (by omega) (by omega) rfl (fun z147 hz147 => ?_)
        have tz147 := h_rgv hz147
        refine h_aload_n (pc' := 1055) rfl rfl rfl ?_
        refine h_iload_n (pc' := 1056) rfl rfl rfl ?_
        refine h_iconst (pc' := 1057) (x := (Int32.ofInt 2)) rfl rfl rfl ?_
        refine h_iadd (pc' := 1058) rfl rfl hy3 ci_2 rfl (by omega) (by omega) (fun z148 hz148 => ?_)
        refine h_iald (pc' := 1059) (v := s0 0 (b3 + 2)) rfl rfl rfl hz148 (by omega) (by omega) rfl (fun z149 hz149 => ?_)
        have tz149 := h_rgv hz149
        refine h_zeq (tg := 1066) (pc' := 1062) rfl rfl rfl hz149 (fun c150 => absurd c150 (by omega)) (fun c150 => ?_)
        refine h_iconst (pc' := 1063) (x := (Int32.ofInt 1)) rfl rfl rfl ?_
        refine h_goto (pc' := 1067) rfl rfl ?_
        refine h_call (sp := false) (pc' := 1070) (M := [(0, .ref 98), (1, .int z147), (2, .int (Int32.ofInt 1))]) rfl rfl rfl rfl rfl rfl rfl rfl ?_
        refine h_iload_n (pc' := 1) rfl rfl rfl ?_
        refine h_i2l (pc' := 2) rfl rfl hz147 (fun z151 hz151 => ?_)
        refine h_lconst (pc' := 3) (x := (Int64.ofInt 0)) rfl rfl rfl ?_
        refine h_ldc2 (pc' := 6) (x := (Int64.ofInt 7)) rfl rfl rfl ?_
        refine h_calls (pc' := 9) (M := [(0, .long z151), (2, .long (Int64.ofInt 0)), (4, .long (Int64.ofInt 7))]) rfl rfl rfl rfl rfl rfl ?_
        refine h_lload_n (pc' := 1) rfl rfl rfl ?_
        refine h_lload_n (pc' := 2) rfl rfl rfl ?_
        refine h_lcmp (pc' := 3) rfl rfl hz151 cl_0 (fun z152 hz152 => ?_)
        refine h_zlt (tg := 17) (pc' := 6) rfl rfl rfl rfl (fun c153 => absurd c153 (by omega)) (fun c153 => ?_)
        replace c153 := (h_lcr hz152).2.1 c153
        clear hz152
        refine h_lload_n (pc' := 7) rfl rfl rfl ?_
        refine h_lload (pc' := 9) rfl rfl rfl ?_
        refine h_lcmp (pc' := 10) rfl rfl hz151 cl_7 (fun z154 hz154 => ?_)
        refine h_zgt (tg := 17) (pc' := 13) rfl rfl rfl rfl (fun c155 => ?_) (fun c155 => absurd c155 (by omega))
        replace c155 := (h_lcr hz154).2.2.2.1 c155
        clear hz154
        refine h_iconst (pc' := 18) (x := (Int32.ofInt 0)) rfl rfl rfl ?_
        refine h_zret rfl rfl ci_0 (by omega) (h_Kv ?_)
        refine h_zne (tg := 14) (pc' := 12) rfl rfl rfl ci_0 (fun c156 => absurd (Int.le_antisymm (by omega) (by omega)) c156) (fun c156 => ?_)
        refine h_iconst (pc' := 13) (x := (Int32.ofInt (-1))) rfl rfl rfl ?_
        refine h_iret rfl rfl (h_Kv ?_)
        refine h_ceq (tg := 1441) (pc' := 1073) rfl rfl rfl ci_m1 ci_m1 (fun c157 => ?_) (fun c157 => absurd (Int.le_antisymm (by omega) (by omega)) c157)
        exact kk _ I0 (by first | exact d_tape.le j0 (Int.le_antisymm (by omega) (by omega)) (by omega) (fun j => rfl) (fun j => rfl) | (exfalso; omega)) (Int.le_antisymm (by omega) (by omega)) (Int.le_antisymm (by omega) (by omega))
set_option maxHeartbeats 100000000 in
theorem g_case_1075 {ns : Nat} (hns : ns ≤ 320) (s0 : h_S) (I0 : h_I s0) (j0 : d_tape s0 s0) (j1 : s0 64 4 = s0 98 16) (j2 : s0 90 2 = s0 98 29) (y3 : Int32) (b3 : Int) (hy3 : y3.toInt = b3) (hr : 0 ≤ b3 ∧ b3 + 5 ≤ ns) {Q : Option Value → h_S → Prop} (kk : ∀ τ, h_I τ → (d_tape τ τ) → (τ 64 4 = τ 98 16) → (τ 90 2 = τ 98 29) → h_T g_P (g_Y ns) 225 1441 [(0, .ref 0), (1, .ref 9), (2, .ref 98), (3, .int y3)] [] τ Q) : h_T g_P (g_Y ns) 225 1075 [(0, .ref 0), (1, .ref 9), (2, .ref 98), (3, .int y3)] [] s0 Q := by
  have F0_ : h_F (fun _ _ => true) s0 s0 := h_F.rf
  have j0_ := j0.2
  have i0 := tf_64_1 I0
  have i1 := tf_98_11 I0
  have i2 := tf_64_4 I0
  have i3 := tf_98_16 I0
  have i4 := tf_90_2 I0
  have i5 := tf_98_29 I0
  have i6 := tf_63_2 I0
  refine h_aload_n (pc' := 1076) rfl rfl rfl ?_
  refine h_aload_n (pc' := 1077) rfl rfl rfl ?_
  refine h_iload_n (pc' := 1078) rfl rfl rfl ?_
  refine h_iconst (pc' := 1079) (x := (Int32.ofInt 1)) rfl rfl rfl ?_
  refine h_iadd (pc' := 1080) rfl rfl hy3 ci_1 rfl (by omega) (by omega) (fun z1 hz1 => ?_)
  refine h_iald (pc' := 1081) (v := s0 0 (b3 + 1)) rfl rfl rfl hz1 (by omega) (by omega) rfl (fun z2 hz2 => ?_)
  have tz2 := h_rgv hz2
  refine h_call (sp := false) (pc' := 1084) (M := [(0, .ref 9), (1, .int z2)]) rfl rfl rfl rfl rfl rfl rfl rfl ?_
  refine w_111_9 _ I0 z2 _ hz2 (fun r3 br3 hr3 s4 Is4 Gs4 tr3 => h_Kv ?_)
  have Zs4 : ∀ i, s4 0 i = s0 0 i := fun i => (Gs4 0 i rfl).trans rfl
  have Fs4 : h_F (fun _ _ => true) s4 s0 := fun _ _ h => by cases h
  have es4_0 : s4 64 1 = s0 64 1 := (Gs4 64 1 rfl).trans rfl
  have es4_1 : s4 98 11 = s0 98 11 := (Gs4 98 11 rfl).trans rfl
  have es4_2 : s4 64 4 = s0 64 4 := (Gs4 64 4 rfl).trans rfl
  have es4_3 : s4 98 16 = s0 98 16 := (Gs4 98 16 rfl).trans rfl
  have es4_5 : s4 98 29 = s0 98 29 := (Gs4 98 29 rfl).trans rfl
  have es4_6 : s4 63 2 = s0 63 2 := (Gs4 63 2 rfl).trans rfl
  refine h_pop (pc' := 1085) rfl rfl rfl ?_
  refine h_aload_n (pc' := 1086) rfl rfl rfl ?_
  refine h_aload_n (pc' := 1087) rfl rfl rfl ?_
  refine h_iload_n (pc' := 1088) rfl rfl rfl ?_
  refine h_iconst (pc' := 1089) (x := (Int32.ofInt 1)) rfl rfl rfl ?_
  refine h_iadd (pc' := 1090) rfl rfl hy3 ci_1 rfl (by omega) (by omega) (fun z5 hz5 => ?_)
  refine h_iald (pc' := 1091) (v := s0 0 (b3 + 1)) rfl rfl rfl hz5 (by omega) (by omega) (Zs4 _) (fun z6 hz6 => ?_)
  have tz6 := h_rgv hz6
  refine h_call (sp := false) (pc' := 1094) (M := [(0, .ref 98), (1, .int z6)]) rfl rfl rfl rfl rfl rfl rfl rfl ?_
  refine w_210_98 _ Is4 z6 _ hz6 (fun r7 br7 hr7 s8 Is8 Gs8 tr7 => h_Kv ?_)
  have Zs8 : ∀ i, s8 0 i = s0 0 i := fun i => (Gs8 0 i rfl).trans (Zs4 i)
  have Fs8 : h_F (fun _ _ => true) s8 s0 := fun _ _ h => by cases h
  have es8_0 : s8 64 1 = s0 64 1 := (Gs8 64 1 rfl).trans es4_0
  have es8_1 : s8 98 11 = s0 98 11 := (Gs8 98 11 rfl).trans es4_1
  have es8_2 : s8 64 4 = s0 64 4 := (Gs8 64 4 rfl).trans es4_2
  have es8_3 : s8 98 16 = s0 98 16 := (Gs8 98 16 rfl).trans es4_3
  have es8_4 : s8 90 2 = s4 90 2 := (Gs8 90 2 rfl).trans rfl
  have es8_6 : s8 63 2 = s0 63 2 := (Gs8 63 2 rfl).trans es4_6
  clear es4_0 es4_1 es4_2 es4_3 es4_5 es4_6
  refine h_pop (pc' := 1095) rfl rfl rfl ?_
  refine h_goto (pc' := 1441) rfl rfl ?_
  exact kk _ Is8 (by first | exact d_tape.le j0 (Int.le_antisymm (by omega) (by omega)) (by omega) (fun j => (Gs8 65 j rfl).trans ((Gs4 65 j rfl))) (fun j => (Gs8 102 j rfl).trans ((Gs4 102 j rfl))) | (exfalso; omega)) (Int.le_antisymm (by omega) (by omega)) (Int.le_antisymm (by omega) (by omega))
set_option maxHeartbeats 100000000 in
theorem g_case_1098 {ns : Nat} (hns : ns ≤ 320) (s0 : h_S) (I0 : h_I s0) (j0 : d_tape s0 s0) (j1 : s0 64 4 = s0 98 16) (j2 : s0 90 2 = s0 98 29) (y3 : Int32) (b3 : Int) (hy3 : y3.toInt = b3) (hr : 0 ≤ b3 ∧ b3 + 5 ≤ ns) {Q : Option Value → h_S → Prop} (kk : ∀ τ, h_I τ → (d_tape τ τ) → (τ 64 4 = τ 98 16) → (τ 90 2 = τ 98 29) → h_T g_P (g_Y ns) 225 1441 [(0, .ref 0), (1, .ref 9), (2, .ref 98), (3, .int y3)] [] τ Q) : h_T g_P (g_Y ns) 225 1098 [(0, .ref 0), (1, .ref 9), (2, .ref 98), (3, .int y3)] [] s0 Q := by
  have F0_ : h_F (fun _ _ => true) s0 s0 := h_F.rf
  have j0_ := j0.2
  have i0 := tf_64_1 I0
  have i1 := tf_98_11 I0
  have i2 := tf_64_4 I0
  have i3 := tf_98_16 I0
  have i4 := tf_90_2 I0
  have i5 := tf_98_29 I0
  have i6 := tf_63_2 I0
  refine h_aload_n (pc' := 1099) rfl rfl rfl ?_
  refine h_aload_n (pc' := 1100) rfl rfl rfl ?_
  refine h_iload_n (pc' := 1101) rfl rfl rfl ?_
  refine h_iconst (pc' := 1102) (x := (Int32.ofInt 1)) rfl rfl rfl ?_
  refine h_iadd (pc' := 1103) rfl rfl hy3 ci_1 rfl (by omega) (by omega) (fun z1 hz1 => ?_)
  refine h_iald (pc' := 1104) (v := s0 0 (b3 + 1)) rfl rfl rfl hz1 (by omega) (by omega) rfl (fun z2 hz2 => ?_)
  have tz2 := h_rgv hz2
  refine h_call (sp := false) (pc' := 1107) (M := [(0, .ref 9), (1, .int z2)]) rfl rfl rfl rfl rfl rfl rfl rfl ?_
  refine w_112_9 _ I0 z2 _ hz2 (fun r3 br3 hr3 s4 Is4 Gs4 => h_Kv ?_)
  have Zs4 : ∀ i, s4 0 i = s0 0 i := fun i => (Gs4 0 i rfl).trans rfl
  have Fs4 : h_F (fun _ _ => true) s4 s0 := fun _ _ h => by cases h
  have es4_0 : s4 64 1 = s0 64 1 := (Gs4 64 1 rfl).trans rfl
  have es4_1 : s4 98 11 = s0 98 11 := (Gs4 98 11 rfl).trans rfl
  have es4_2 : s4 64 4 = s0 64 4 := (Gs4 64 4 rfl).trans rfl
  have es4_3 : s4 98 16 = s0 98 16 := (Gs4 98 16 rfl).trans rfl
  have es4_4 : s4 90 2 = s0 90 2 := (Gs4 90 2 rfl).trans rfl
  have es4_5 : s4 98 29 = s0 98 29 := (Gs4 98 29 rfl).trans rfl
  have es4_6 : s4 63 2 = s0 63 2 := (Gs4 63 2 rfl).trans rfl
  refine h_pop (pc' := 1108) rfl rfl rfl ?_
  refine h_aload_n (pc' := 1109) rfl rfl rfl ?_
  refine h_aload_n (pc' := 1110) rfl rfl rfl ?_
  refine h_iload_n (pc' := 1111) rfl rfl rfl ?_
  refine h_iconst (pc' := 1112) (x := (Int32.ofInt 1)) rfl rfl rfl ?_
  refine h_iadd (pc' := 1113) rfl rfl hy3 ci_1 rfl (by omega) (by omega) (fun z5 hz5 => ?_)
  refine h_iald (pc' := 1114) (v := s0 0 (b3 + 1)) rfl rfl rfl hz5 (by omega) (by omega) (Zs4 _) (fun z6 hz6 => ?_)
  have tz6 := h_rgv hz6
  refine h_call (sp := false) (pc' := 1117) (M := [(0, .ref 98), (1, .int z6)]) rfl rfl rfl rfl rfl rfl rfl rfl ?_
  refine w_213_98 _ Is4 z6 _ hz6 (fun r7 br7 hr7 s8 Is8 Gs8 => h_Kv ?_)
  have Zs8 : ∀ i, s8 0 i = s0 0 i := fun i => (Gs8 0 i rfl).trans (Zs4 i)
  have Fs8 : h_F (fun _ _ => true) s8 s0 := fun _ _ h => by cases h
  have es8_0 : s8 64 1 = s0 64 1 := (Gs8 64 1 rfl).trans es4_0
  have es8_1 : s8 98 11 = s0 98 11 := (Gs8 98 11 rfl).trans es4_1
  have es8_2 : s8 64 4 = s0 64 4 := (Gs8 64 4 rfl).trans es4_2
  have es8_3 : s8 98 16 = s0 98 16 := (Gs8 98 16 rfl).trans es4_3
  have es8_4 : s8 90 2 = s0 90 2 := (Gs8 90 2 rfl).trans es4_4
  have es8_5 : s8 98 29 = s0 98 29 := (Gs8 98 29 rfl).trans es4_5
  have es8_6 : s8 63 2 = s0 63 2 := (Gs8 63 2 rfl).trans es4_6
  clear es4_0 es4_1 es4_2 es4_3 es4_4 es4_5 es4_6
  refine h_pop (pc' := 1118) rfl rfl rfl ?_
  refine h_goto (pc' := 1441) rfl rfl ?_
  exact kk _ Is8 (by first | exact d_tape.le j0 (Int.le_antisymm (by omega) (by omega)) (by omega) (fun j => (Gs8 65 j rfl).trans ((Gs4 65 j rfl))) (fun j => (Gs8 102 j rfl).trans ((Gs4 102 j rfl))) | (exfalso; omega)) (Int.le_antisymm (by omega) (by omega)) (Int.le_antisymm (by omega) (by omega))
set_option maxHeartbeats 100000000 in
theorem g_case_1121 {ns : Nat} (hns : ns ≤ 320) (s0 : h_S) (I0 : h_I s0) (j0 : d_tape s0 s0) (j1 : s0 64 4 = s0 98 16) (j2 : s0 90 2 = s0 98 29) (y3 : Int32) (b3 : Int) (hy3 : y3.toInt = b3) (hr : 0 ≤ b3 ∧ b3 + 5 ≤ ns) {Q : Option Value → h_S → Prop} (kk : ∀ τ, h_I τ → (d_tape τ τ) → (τ 64 4 = τ 98 16) → (τ 90 2 = τ 98 29) → h_T g_P (g_Y ns) 225 1441 [(0, .ref 0), (1, .ref 9), (2, .ref 98), (3, .int y3)] [] τ Q) : h_T g_P (g_Y ns) 225 1121 [(0, .ref 0), (1, .ref 9), (2, .ref 98), (3, .int y3)] [] s0 Q := by
  have F0_ : h_F (fun _ _ => true) s0 s0 := h_F.rf
  have j0_ := j0.2
  have i0 := tf_64_1 I0
  have i1 := tf_98_11 I0
  have i2 := tf_64_4 I0
  have i3 := tf_98_16 I0
  have i4 := tf_90_2 I0
  have i5 := tf_98_29 I0
  have i6 := tf_63_2 I0
  refine h_aload_n (pc' := 1122) rfl rfl rfl ?_
  refine h_aload_n (pc' := 1123) rfl rfl rfl ?_
  refine h_iload_n (pc' := 1124) rfl rfl rfl ?_
  refine h_iconst (pc' := 1125) (x := (Int32.ofInt 1)) rfl rfl rfl ?_
  refine h_iadd (pc' := 1126) rfl rfl hy3 ci_1 rfl (by omega) (by omega) (fun z1 hz1 => ?_)
  refine h_iald (pc' := 1127) (v := s0 0 (b3 + 1)) rfl rfl rfl hz1 (by omega) (by omega) rfl (fun z2 hz2 => ?_)
  have tz2 := h_rgv hz2
  refine h_call (sp := false) (pc' := 1130) (M := [(0, .ref 9), (1, .int z2)]) rfl rfl rfl rfl rfl rfl rfl rfl ?_
  refine w_113_9 _ I0 z2 _ hz2 (fun r3 br3 hr3 s4 Is4 Gs4 => h_Kv ?_)
  have Zs4 : ∀ i, s4 0 i = s0 0 i := fun i => (Gs4 0 i rfl).trans rfl
  have Fs4 : h_F (fun _ _ => true) s4 s0 := fun _ _ h => by cases h
  have es4_0 : s4 64 1 = s0 64 1 := (Gs4 64 1 rfl).trans rfl
  have es4_1 : s4 98 11 = s0 98 11 := (Gs4 98 11 rfl).trans rfl
  have es4_2 : s4 64 4 = s0 64 4 := (Gs4 64 4 rfl).trans rfl
  have es4_3 : s4 98 16 = s0 98 16 := (Gs4 98 16 rfl).trans rfl
  have es4_4 : s4 90 2 = s0 90 2 := (Gs4 90 2 rfl).trans rfl
  have es4_5 : s4 98 29 = s0 98 29 := (Gs4 98 29 rfl).trans rfl
  have es4_6 : s4 63 2 = s0 63 2 := (Gs4 63 2 rfl).trans rfl
  refine h_pop (pc' := 1131) rfl rfl rfl ?_
  refine h_aload_n (pc' := 1132) rfl rfl rfl ?_
  refine h_aload_n (pc' := 1133) rfl rfl rfl ?_
  refine h_iload_n (pc' := 1134) rfl rfl rfl ?_
  refine h_iconst (pc' := 1135) (x := (Int32.ofInt 1)) rfl rfl rfl ?_
  refine h_iadd (pc' := 1136) rfl rfl hy3 ci_1 rfl (by omega) (by omega) (fun z5 hz5 => ?_)
  refine h_iald (pc' := 1137) (v := s0 0 (b3 + 1)) rfl rfl rfl hz5 (by omega) (by omega) (Zs4 _) (fun z6 hz6 => ?_)
  have tz6 := h_rgv hz6
  refine h_call (sp := false) (pc' := 1140) (M := [(0, .ref 98), (1, .int z6)]) rfl rfl rfl rfl rfl rfl rfl rfl ?_
  refine w_214_98 _ Is4 z6 _ hz6 (fun r7 br7 hr7 s8 Is8 Gs8 => h_Kv ?_)
  have Zs8 : ∀ i, s8 0 i = s0 0 i := fun i => (Gs8 0 i rfl).trans (Zs4 i)
  have Fs8 : h_F (fun _ _ => true) s8 s0 := fun _ _ h => by cases h
  have es8_0 : s8 64 1 = s0 64 1 := (Gs8 64 1 rfl).trans es4_0
  have es8_1 : s8 98 11 = s0 98 11 := (Gs8 98 11 rfl).trans es4_1
  have es8_2 : s8 64 4 = s0 64 4 := (Gs8 64 4 rfl).trans es4_2
  have es8_3 : s8 98 16 = s0 98 16 := (Gs8 98 16 rfl).trans es4_3
  have es8_4 : s8 90 2 = s0 90 2 := (Gs8 90 2 rfl).trans es4_4
  have es8_5 : s8 98 29 = s0 98 29 := (Gs8 98 29 rfl).trans es4_5
  have es8_6 : s8 63 2 = s0 63 2 := (Gs8 63 2 rfl).trans es4_6
  clear es4_0 es4_1 es4_2 es4_3 es4_4 es4_5 es4_6
  refine h_pop (pc' := 1141) rfl rfl rfl ?_
  refine h_goto (pc' := 1441) rfl rfl ?_
  exact kk _ Is8 (by first | exact d_tape.le j0 (Int.le_antisymm (by omega) (by omega)) (by omega) (fun j => (Gs8 65 j rfl).trans ((Gs4 65 j rfl))) (fun j => (Gs8 102 j rfl).trans ((Gs4 102 j rfl))) | (exfalso; omega)) (Int.le_antisymm (by omega) (by omega)) (Int.le_antisymm (by omega) (by omega))
set_option maxHeartbeats 100000000 in
theorem g_case_1144 {ns : Nat} (hns : ns ≤ 320) (s0 : h_S) (I0 : h_I s0) (j0 : d_tape s0 s0) (j1 : s0 64 4 = s0 98 16) (j2 : s0 90 2 = s0 98 29) (y3 : Int32) (b3 : Int) (hy3 : y3.toInt = b3) (hr : 0 ≤ b3 ∧ b3 + 5 ≤ ns) {Q : Option Value → h_S → Prop} (kk : ∀ τ, h_I τ → (d_tape τ τ) → (τ 64 4 = τ 98 16) → (τ 90 2 = τ 98 29) → h_T g_P (g_Y ns) 225 1441 [(0, .ref 0), (1, .ref 9), (2, .ref 98), (3, .int y3)] [] τ Q) : h_T g_P (g_Y ns) 225 1144 [(0, .ref 0), (1, .ref 9), (2, .ref 98), (3, .int y3)] [] s0 Q := by
  have F0_ : h_F (fun _ _ => true) s0 s0 := h_F.rf
  have j0_ := j0.2
  have i0 := tf_64_1 I0
  have i1 := tf_98_11 I0
  have i2 := tf_64_4 I0
  have i3 := tf_98_16 I0
  have i4 := tf_90_2 I0
  have i5 := tf_98_29 I0
  have i6 := tf_63_2 I0
  refine h_aload_n (pc' := 1145) rfl rfl rfl ?_
  refine h_aload_n (pc' := 1146) rfl rfl rfl ?_
  refine h_iload_n (pc' := 1147) rfl rfl rfl ?_
  refine h_iconst (pc' := 1148) (x := (Int32.ofInt 1)) rfl rfl rfl ?_
  refine h_iadd (pc' := 1149) rfl rfl hy3 ci_1 rfl (by omega) (by omega) (fun z1 hz1 => ?_)
  refine h_iald (pc' := 1150) (v := s0 0 (b3 + 1)) rfl rfl rfl hz1 (by omega) (by omega) rfl (fun z2 hz2 => ?_)
  have tz2 := h_rgv hz2
  refine h_aload_n (pc' := 1151) rfl rfl rfl ?_
  refine h_iload_n (pc' := 1152) rfl rfl rfl ?_
  refine h_iconst (pc' := 1153) (x := (Int32.ofInt 2)) rfl rfl rfl ?_
  refine h_iadd (pc' := 1154) rfl rfl hy3 ci_2 rfl (by omega) (by omega) (fun z3 hz3 => ?_)
  refine h_iald (pc' := 1155) (v := s0 0 (b3 + 2)) rfl rfl rfl hz3 (by omega) (by omega) rfl (fun z4 hz4 => ?_)
  have tz4 := h_rgv hz4
  refine h_call (sp := false) (pc' := 1158) (M := [(0, .ref 9), (1, .int z2), (2, .int z4)]) rfl rfl rfl rfl rfl rfl rfl rfl ?_
  refine w_114_9 _ I0 z2 _ hz2 z4 _ hz4 (fun r5 br5 hr5 s6 Is6 Gs6 tr5 => h_Kv ?_)
  have Zs6 : ∀ i, s6 0 i = s0 0 i := fun i => (Gs6 0 i rfl).trans rfl
  have Fs6 : h_F (fun _ _ => true) s6 s0 := fun _ _ h => by cases h
  have es6_0 : s6 64 1 = s0 64 1 := (Gs6 64 1 rfl).trans rfl
  have es6_1 : s6 98 11 = s0 98 11 := (Gs6 98 11 rfl).trans rfl
  have es6_2 : s6 64 4 = s0 64 4 := (Gs6 64 4 rfl).trans rfl
  have es6_3 : s6 98 16 = s0 98 16 := (Gs6 98 16 rfl).trans rfl
  have es6_4 : s6 90 2 = s0 90 2 := (Gs6 90 2 rfl).trans rfl
  have es6_5 : s6 98 29 = s0 98 29 := (Gs6 98 29 rfl).trans rfl
  have es6_6 : s6 63 2 = s0 63 2 := (Gs6 63 2 rfl).trans rfl
  refine h_pop (pc' := 1159) rfl rfl rfl ?_
  refine h_aload_n (pc' := 1160) rfl rfl rfl ?_
  refine h_aload_n (pc' := 1161) rfl rfl rfl ?_
  refine h_iload_n (pc' := 1162) rfl rfl rfl ?_
  refine h_iconst (pc' := 1163) (x := (Int32.ofInt 1)) rfl rfl rfl ?_
  refine h_iadd (pc' := 1164) rfl rfl hy3 ci_1 rfl (by omega) (by omega) (fun z7 hz7 => ?_)
  refine h_iald (pc' := 1165) (v := s0 0 (b3 + 1)) rfl rfl rfl hz7 (by omega) (by omega) (Zs6 _) (fun z8 hz8 => ?_)
  have tz8 := h_rgv hz8
  refine h_aload_n (pc' := 1166) rfl rfl rfl ?_
  refine h_iload_n (pc' := 1167) rfl rfl rfl ?_
  refine h_iconst (pc' := 1168) (x := (Int32.ofInt 2)) rfl rfl rfl ?_
  refine h_iadd (pc' := 1169) rfl rfl hy3 ci_2 rfl (by omega) (by omega) (fun z9 hz9 => ?_)
  refine h_iald (pc' := 1170) (v := s0 0 (b3 + 2)) rfl rfl rfl hz9 (by omega) (by omega) (Zs6 _) (fun z10 hz10 => ?_)
  have tz10 := h_rgv hz10
  refine h_call (sp := false) (pc' := 1173) (M := [(0, .ref 98), (1, .int z8), (2, .int z10)]) rfl rfl rfl rfl rfl rfl rfl rfl ?_
  refine w_215_98 _ Is6 z8 _ hz8 z10 _ hz10 (fun r11 br11 hr11 s12 Is12 Gs12 => h_Kv ?_)
  have Zs12 : ∀ i, s12 0 i = s0 0 i := fun i => (Gs12 0 i rfl).trans (Zs6 i)
  have Fs12 : h_F (fun _ _ => true) s12 s0 := fun _ _ h => by cases h
  have es12_0 : s12 64 1 = s0 64 1 := (Gs12 64 1 rfl).trans es6_0
  have es12_1 : s12 98 11 = s0 98 11 := (Gs12 98 11 rfl).trans es6_1
  have es12_2 : s12 64 4 = s0 64 4 := (Gs12 64 4 rfl).trans es6_2
  have es12_3 : s12 98 16 = s0 98 16 := (Gs12 98 16 rfl).trans es6_3
  have es12_4 : s12 90 2 = s0 90 2 := (Gs12 90 2 rfl).trans es6_4
  have es12_5 : s12 98 29 = s0 98 29 := (Gs12 98 29 rfl).trans es6_5
  have es12_6 : s12 63 2 = s0 63 2 := (Gs12 63 2 rfl).trans es6_6
  clear es6_0 es6_1 es6_2 es6_3 es6_4 es6_5 es6_6
  refine h_pop (pc' := 1174) rfl rfl rfl ?_
  refine h_goto (pc' := 1441) rfl rfl ?_
  exact kk _ Is12 (by first | exact d_tape.le j0 (Int.le_antisymm (by omega) (by omega)) (by omega) (fun j => (Gs12 65 j rfl).trans ((Gs6 65 j rfl))) (fun j => (Gs12 102 j rfl).trans ((Gs6 102 j rfl))) | (exfalso; omega)) (Int.le_antisymm (by omega) (by omega)) (Int.le_antisymm (by omega) (by omega))
set_option maxHeartbeats 100000000 in
theorem g_case_1177 {ns : Nat} (hns : ns ≤ 320) (s0 : h_S) (I0 : h_I s0) (j0 : d_tape s0 s0) (j1 : s0 64 4 = s0 98 16) (j2 : s0 90 2 = s0 98 29) (y3 : Int32) (b3 : Int) (hy3 : y3.toInt = b3) (hr : 0 ≤ b3 ∧ b3 + 5 ≤ ns) {Q : Option Value → h_S → Prop} (kk : ∀ τ, h_I τ → (d_tape τ τ) → (τ 64 4 = τ 98 16) → (τ 90 2 = τ 98 29) → h_T g_P (g_Y ns) 225 1441 [(0, .ref 0), (1, .ref 9), (2, .ref 98), (3, .int y3)] [] τ Q) : h_T g_P (g_Y ns) 225 1177 [(0, .ref 0), (1, .ref 9), (2, .ref 98), (3, .int y3)] [] s0 Q := by
  have F0_ : h_F (fun _ _ => true) s0 s0 := h_F.rf
  have j0_ := j0.2
  have i0 := tf_64_1 I0
  have i1 := tf_98_11 I0
  have i2 := tf_64_4 I0
  have i3 := tf_98_16 I0
  have i4 := tf_90_2 I0
  have i5 := tf_98_29 I0
  have i6 := tf_63_2 I0
  refine h_aload_n (pc' := 1178) rfl rfl rfl ?_
  refine h_aload_n (pc' := 1179) rfl rfl rfl ?_
  refine h_iload_n (pc' := 1180) rfl rfl rfl ?_
  refine h_iconst (pc' := 1181) (x := (Int32.ofInt 1)) rfl rfl rfl ?_
  refine h_iadd (pc' := 1182) rfl rfl hy3 ci_1 rfl (by omega) (by omega) (fun z1 hz1 => ?_)
  refine h_iald (pc' := 1183) (v := s0 0 (b3 + 1)) rfl rfl rfl hz1 (by omega) (by omega) rfl (fun z2 hz2 => ?_)
  have tz2 := h_rgv hz2
  refine h_aload_n (pc' := 1184) rfl rfl rfl ?_
  refine h_iload_n (pc' := 1185) rfl rfl rfl ?_
  refine h_iconst (pc' := 1186) (x := (Int32.ofInt 2)) rfl rfl rfl ?_
  refine h_iadd (pc' := 1187) rfl rfl hy3 ci_2 rfl (by omega) (by omega) (fun z3 hz3 => ?_)
  refine h_iald (pc' := 1188) (v := s0 0 (b3 + 2)) rfl rfl rfl hz3 (by omega) (by omega) rfl (fun z4 hz4 => ?_)
  have tz4 := h_rgv hz4
  refine h_aload_n (pc' := 1189) rfl rfl rfl ?_
  refine h_iload_n (pc' := 1190) rfl rfl rfl ?_
  refine h_iconst (pc' := 1191) (x := (Int32.ofInt 3)) rfl rfl rfl ?_
  refine h_iadd (pc' := 1192) rfl rfl hy3 ci_3 rfl (by omega) (by omega) (fun z5 hz5 => ?_)
  refine h_iald (pc' := 1193) (v := s0 0 (b3 + 3)) rfl rfl rfl hz5 (by omega) (by omega) rfl (fun z6 hz6 => ?_)
  have tz6 := h_rgv hz6
  refine h_call (sp := false) (pc' := 1196) (M := [(0, .ref 9), (1, .int z2), (2, .int z4), (3, .int z6)]) rfl rfl rfl rfl rfl rfl rfl rfl ?_
  refine w_115_9 _ I0 z2 _ hz2 z4 _ hz4 z6 _ hz6 (fun r7 br7 hr7 s8 Is8 Gs8 => h_Kv ?_)
  have Zs8 : ∀ i, s8 0 i = s0 0 i := fun i => (Gs8 0 i rfl).trans rfl
  have Fs8 : h_F (fun _ _ => true) s8 s0 := fun _ _ h => by cases h
  have es8_0 : s8 64 1 = s0 64 1 := (Gs8 64 1 rfl).trans rfl
  have es8_1 : s8 98 11 = s0 98 11 := (Gs8 98 11 rfl).trans rfl
  have es8_2 : s8 64 4 = s0 64 4 := (Gs8 64 4 rfl).trans rfl
  have es8_3 : s8 98 16 = s0 98 16 := (Gs8 98 16 rfl).trans rfl
  have es8_4 : s8 90 2 = s0 90 2 := (Gs8 90 2 rfl).trans rfl
  have es8_5 : s8 98 29 = s0 98 29 := (Gs8 98 29 rfl).trans rfl
  have es8_6 : s8 63 2 = s0 63 2 := (Gs8 63 2 rfl).trans rfl
  refine h_pop (pc' := 1197) rfl rfl rfl ?_
  refine h_aload_n (pc' := 1198) rfl rfl rfl ?_
  refine h_aload_n (pc' := 1199) rfl rfl rfl ?_
  refine h_iload_n (pc' := 1200) rfl rfl rfl ?_
  refine h_iconst (pc' := 1201) (x := (Int32.ofInt 1)) rfl rfl rfl ?_
  refine h_iadd (pc' := 1202) rfl rfl hy3 ci_1 rfl (by omega) (by omega) (fun z9 hz9 => ?_)
  refine h_iald (pc' := 1203) (v := s0 0 (b3 + 1)) rfl rfl rfl hz9 (by omega) (by omega) (Zs8 _) (fun z10 hz10 => ?_)
  have tz10 := h_rgv hz10
  refine h_aload_n (pc' := 1204) rfl rfl rfl ?_
  refine h_iload_n (pc' := 1205) rfl rfl rfl ?_
  refine h_iconst (pc' := 1206) (x := (Int32.ofInt 2)) rfl rfl rfl ?_
  refine h_iadd (pc' := 1207) rfl rfl hy3 ci_2 rfl (by omega) (by omega) (fun z11 hz11 => ?_)
  refine h_iald (pc' := 1208) (v := s0 0 (b3 + 2)) rfl rfl rfl hz11 (by omega) (by omega) (Zs8 _) (fun z12 hz12 => ?_)
  have tz12 := h_rgv hz12
  refine h_aload_n (pc' := 1209) rfl rfl rfl ?_
  refine h_iload_n (pc' := 1210) rfl rfl rfl ?_
  refine h_iconst (pc' := 1211) (x := (Int32.ofInt 3)) rfl rfl rfl ?_
  refine h_iadd (pc' := 1212) rfl rfl hy3 ci_3 rfl (by omega) (by omega) (fun z13 hz13 => ?_)
  refine h_iald (pc' := 1213) (v := s0 0 (b3 + 3)) rfl rfl rfl hz13 (by omega) (by omega) (Zs8 _) (fun z14 hz14 => ?_)
  have tz14 := h_rgv hz14
  refine h_call (sp := false) (pc' := 1216) (M := [(0, .ref 98), (1, .int z10), (2, .int z12), (3, .int z14)]) rfl rfl rfl rfl rfl rfl rfl rfl ?_
  refine w_217_98 _ Is8 z10 _ hz10 z12 _ hz12 z14 _ hz14 (fun r15 br15 hr15 s16 Is16 Gs16 => h_Kv ?_)
  have Zs16 : ∀ i, s16 0 i = s0 0 i := fun i => (Gs16 0 i rfl).trans (Zs8 i)
  have Fs16 : h_F (fun _ _ => true) s16 s0 := fun _ _ h => by cases h
  have es16_0 : s16 64 1 = s0 64 1 := (Gs16 64 1 rfl).trans es8_0
  have es16_1 : s16 98 11 = s0 98 11 := (Gs16 98 11 rfl).trans es8_1
  have es16_2 : s16 64 4 = s0 64 4 := (Gs16 64 4 rfl).trans es8_2
  have es16_3 : s16 98 16 = s0 98 16 := (Gs16 98 16 rfl).trans es8_3
  have es16_4 : s16 90 2 = s0 90 2 := (Gs16 90 2 rfl).trans es8_4
  have es16_5 : s16 98 29 = s0 98 29 := (Gs16 98 29 rfl).trans es8_5
  have es16_6 : s16 63 2 = s0 63 2 := (Gs16 63 2 rfl).trans es8_6
  clear es8_0 es8_1 es8_2 es8_3 es8_4 es8_5 es8_6
  refine h_pop (pc' := 1217) rfl rfl rfl ?_
  refine h_goto (pc' := 1441) rfl rfl ?_
  exact kk _ Is16 (by first | exact d_tape.le j0 (Int.le_antisymm (by omega) (by omega)) (by omega) (fun j => (Gs16 65 j rfl).trans ((Gs8 65 j rfl))) (fun j => (Gs16 102 j rfl).trans ((Gs8 102 j rfl))) | (exfalso; omega)) (Int.le_antisymm (by omega) (by omega)) (Int.le_antisymm (by omega) (by omega))
set_option maxHeartbeats 100000000 in
theorem g_case_1220 {ns : Nat} (hns : ns ≤ 320) (s0 : h_S) (I0 : h_I s0) (j0 : d_tape s0 s0) (j1 : s0 64 4 = s0 98 16) (j2 : s0 90 2 = s0 98 29) (y3 : Int32) (b3 : Int) (hy3 : y3.toInt = b3) (hr : 0 ≤ b3 ∧ b3 + 5 ≤ ns) {Q : Option Value → h_S → Prop} (kk : ∀ τ, h_I τ → (d_tape τ τ) → (τ 64 4 = τ 98 16) → (τ 90 2 = τ 98 29) → h_T g_P (g_Y ns) 225 1441 [(0, .ref 0), (1, .ref 9), (2, .ref 98), (3, .int y3)] [] τ Q) : h_T g_P (g_Y ns) 225 1220 [(0, .ref 0), (1, .ref 9), (2, .ref 98), (3, .int y3)] [] s0 Q := by
  have F0_ : h_F (fun _ _ => true) s0 s0 := h_F.rf
  have j0_ := j0.2
  have i0 := tf_64_1 I0
  have i1 := tf_98_11 I0
  have i2 := tf_64_4 I0
  have i3 := tf_98_16 I0
  have i4 := tf_90_2 I0
  have i5 := tf_98_29 I0
  have i6 := tf_63_2 I0
  refine h_aload_n (pc' := 1221) rfl rfl rfl ?_
  refine h_aload_n (pc' := 1222) rfl rfl rfl ?_
  refine h_iload_n (pc' := 1223) rfl rfl rfl ?_
  refine h_iconst (pc' := 1224) (x := (Int32.ofInt 1)) rfl rfl rfl ?_
  refine h_iadd (pc' := 1225) rfl rfl hy3 ci_1 rfl (by omega) (by omega) (fun z1 hz1 => ?_)
  refine h_iald (pc' := 1226) (v := s0 0 (b3 + 1)) rfl rfl rfl hz1 (by omega) (by omega) rfl (fun z2 hz2 => ?_)
  have tz2 := h_rgv hz2
  refine h_call (sp := false) (pc' := 1229) (M := [(0, .ref 9), (1, .int z2)]) rfl rfl rfl rfl rfl rfl rfl rfl ?_
  refine w_116_9 _ I0 z2 _ hz2 (fun r3 br3 hr3 s4 Is4 Gs4 tr3 => h_Kv ?_)
  have Zs4 : ∀ i, s4 0 i = s0 0 i := fun i => (Gs4 0 i rfl).trans rfl
  have Fs4 : h_F (fun _ _ => true) s4 s0 := fun _ _ h => by cases h
  have es4_0 : s4 64 1 = s0 64 1 := (Gs4 64 1 rfl).trans rfl
  have es4_1 : s4 98 11 = s0 98 11 := (Gs4 98 11 rfl).trans rfl
  have es4_2 : s4 64 4 = s0 64 4 := (Gs4 64 4 rfl).trans rfl
  have es4_3 : s4 98 16 = s0 98 16 := (Gs4 98 16 rfl).trans rfl
  have es4_4 : s4 90 2 = s0 90 2 := (Gs4 90 2 rfl).trans rfl
  have es4_5 : s4 98 29 = s0 98 29 := (Gs4 98 29 rfl).trans rfl
  have es4_6 : s4 63 2 = s0 63 2 := (Gs4 63 2 rfl).trans rfl
  refine h_pop (pc' := 1230) rfl rfl rfl ?_
  refine h_aload_n (pc' := 1231) rfl rfl rfl ?_
  refine h_aload_n (pc' := 1232) rfl rfl rfl ?_
  refine h_iload_n (pc' := 1233) rfl rfl rfl ?_
  refine h_iconst (pc' := 1234) (x := (Int32.ofInt 1)) rfl rfl rfl ?_
  refine h_iadd (pc' := 1235) rfl rfl hy3 ci_1 rfl (by omega) (by omega) (fun z5 hz5 => ?_)
  refine h_iald (pc' := 1236) (v := s0 0 (b3 + 1)) rfl rfl rfl hz5 (by omega) (by omega) (Zs4 _) (fun z6 hz6 => ?_)
  have tz6 := h_rgv hz6
  refine h_call (sp := false) (pc' := 1239) (M := [(0, .ref 98), (1, .int z6)]) rfl rfl rfl rfl rfl rfl rfl rfl ?_
  refine w_218_98 _ Is4 z6 _ hz6 (fun r7 br7 hr7 s8 Is8 Gs8 tr7 => h_Kv ?_)
  have Zs8 : ∀ i, s8 0 i = s0 0 i := fun i => (Gs8 0 i rfl).trans (Zs4 i)
  have Fs8 : h_F (fun _ _ => true) s8 s0 := fun _ _ h => by cases h
  have es8_0 : s8 64 1 = s0 64 1 := (Gs8 64 1 rfl).trans es4_0
  have es8_1 : s8 98 11 = s0 98 11 := (Gs8 98 11 rfl).trans es4_1
  have es8_2 : s8 64 4 = s0 64 4 := (Gs8 64 4 rfl).trans es4_2
  have es8_3 : s8 98 16 = s0 98 16 := (Gs8 98 16 rfl).trans es4_3
  have es8_4 : s8 90 2 = s0 90 2 := (Gs8 90 2 rfl).trans es4_4
  have es8_5 : s8 98 29 = s0 98 29 := (Gs8 98 29 rfl).trans es4_5
  have es8_6 : s8 63 2 = s0 63 2 := (Gs8 63 2 rfl).trans es4_6
  clear es4_0 es4_1 es4_2 es4_3 es4_4 es4_5 es4_6
  refine h_pop (pc' := 1240) rfl rfl rfl ?_
  refine h_goto (pc' := 1441) rfl rfl ?_
  exact kk _ Is8 (by first | exact d_tape.le j0 (Int.le_antisymm (by omega) (by omega)) (by omega) (fun j => (Gs8 65 j rfl).trans ((Gs4 65 j rfl))) (fun j => (Gs8 102 j rfl).trans ((Gs4 102 j rfl))) | (exfalso; omega)) (Int.le_antisymm (by omega) (by omega)) (Int.le_antisymm (by omega) (by omega))
set_option maxHeartbeats 100000000 in
theorem g_case_1243 {ns : Nat} (hns : ns ≤ 320) (s0 : h_S) (I0 : h_I s0) (j0 : d_tape s0 s0) (j1 : s0 64 4 = s0 98 16) (j2 : s0 90 2 = s0 98 29) (y3 : Int32) (b3 : Int) (hy3 : y3.toInt = b3) (hr : 0 ≤ b3 ∧ b3 + 5 ≤ ns) {Q : Option Value → h_S → Prop} (kk : ∀ τ, h_I τ → (d_tape τ τ) → (τ 64 4 = τ 98 16) → (τ 90 2 = τ 98 29) → h_T g_P (g_Y ns) 225 1441 [(0, .ref 0), (1, .ref 9), (2, .ref 98), (3, .int y3)] [] τ Q) : h_T g_P (g_Y ns) 225 1243 [(0, .ref 0), (1, .ref 9), (2, .ref 98), (3, .int y3)] [] s0 Q := by
  have F0_ : h_F (fun _ _ => true) s0 s0 := h_F.rf
  have j0_ := j0.2
  have i0 := tf_64_1 I0
  have i1 := tf_98_11 I0
  have i2 := tf_64_4 I0
  have i3 := tf_98_16 I0
  have i4 := tf_90_2 I0
  have i5 := tf_98_29 I0
  have i6 := tf_63_2 I0
  refine h_aload_n (pc' := 1244) rfl rfl rfl ?_
  refine h_aload_n (pc' := 1245) rfl rfl rfl ?_
  refine h_iload_n (pc' := 1246) rfl rfl rfl ?_
  refine h_iconst (pc' := 1247) (x := (Int32.ofInt 1)) rfl rfl rfl ?_
  refine h_iadd (pc' := 1248) rfl rfl hy3 ci_1 rfl (by omega) (by omega) (fun z1 hz1 => ?_)
  refine h_iald (pc' := 1249) (v := s0 0 (b3 + 1)) rfl rfl rfl hz1 (by omega) (by omega) rfl (fun z2 hz2 => ?_)
  have tz2 := h_rgv hz2
  refine h_call (sp := false) (pc' := 1252) (M := [(0, .ref 9), (1, .int z2)]) rfl rfl rfl rfl rfl rfl rfl rfl ?_
  refine w_117_9 _ I0 z2 _ hz2 (fun r3 br3 hr3 s4 Is4 Gs4 => h_Kv ?_)
  have Zs4 : ∀ i, s4 0 i = s0 0 i := fun i => (Gs4 0 i rfl).trans rfl
  have Fs4 : h_F (fun _ _ => true) s4 s0 := fun _ _ h => by cases h
  have es4_0 : s4 64 1 = s0 64 1 := (Gs4 64 1 rfl).trans rfl
  have es4_1 : s4 98 11 = s0 98 11 := (Gs4 98 11 rfl).trans rfl
  have es4_2 : s4 64 4 = s0 64 4 := (Gs4 64 4 rfl).trans rfl
  have es4_3 : s4 98 16 = s0 98 16 := (Gs4 98 16 rfl).trans rfl
  have es4_4 : s4 90 2 = s0 90 2 := (Gs4 90 2 rfl).trans rfl
  have es4_5 : s4 98 29 = s0 98 29 := (Gs4 98 29 rfl).trans rfl
  have es4_6 : s4 63 2 = s0 63 2 := (Gs4 63 2 rfl).trans rfl
  refine h_pop (pc' := 1253) rfl rfl rfl ?_
  refine h_aload_n (pc' := 1254) rfl rfl rfl ?_
  refine h_aload_n (pc' := 1255) rfl rfl rfl ?_
  refine h_iload_n (pc' := 1256) rfl rfl rfl ?_
  refine h_iconst (pc' := 1257) (x := (Int32.ofInt 1)) rfl rfl rfl ?_
  refine h_iadd (pc' := 1258) rfl rfl hy3 ci_1 rfl (by omega) (by omega) (fun z5 hz5 => ?_)
  refine h_iald (pc' := 1259) (v := s0 0 (b3 + 1)) rfl rfl rfl hz5 (by omega) (by omega) (Zs4 _) (fun z6 hz6 => ?_)
  have tz6 := h_rgv hz6
  refine h_call (sp := false) (pc' := 1262) (M := [(0, .ref 98), (1, .int z6)]) rfl rfl rfl rfl rfl rfl rfl rfl ?_
  refine w_219_98 _ Is4 z6 _ hz6 (fun r7 br7 hr7 s8 Is8 Gs8 => h_Kv ?_)
  have Zs8 : ∀ i, s8 0 i = s0 0 i := fun i => (Gs8 0 i rfl).trans (Zs4 i)
  have Fs8 : h_F (fun _ _ => true) s8 s0 := fun _ _ h => by cases h
  have es8_0 : s8 64 1 = s0 64 1 := (Gs8 64 1 rfl).trans es4_0
  have es8_1 : s8 98 11 = s0 98 11 := (Gs8 98 11 rfl).trans es4_1
  have es8_2 : s8 64 4 = s0 64 4 := (Gs8 64 4 rfl).trans es4_2
  have es8_3 : s8 98 16 = s0 98 16 := (Gs8 98 16 rfl).trans es4_3
  have es8_4 : s8 90 2 = s0 90 2 := (Gs8 90 2 rfl).trans es4_4
  have es8_5 : s8 98 29 = s0 98 29 := (Gs8 98 29 rfl).trans es4_5
  have es8_6 : s8 63 2 = s0 63 2 := (Gs8 63 2 rfl).trans es4_6
  clear es4_0 es4_1 es4_2 es4_3 es4_4 es4_5 es4_6
  refine h_pop (pc' := 1263) rfl rfl rfl ?_
  refine h_goto (pc' := 1441) rfl rfl ?_
  exact kk _ Is8 (by first | exact d_tape.le j0 (Int.le_antisymm (by omega) (by omega)) (by omega) (fun j => (Gs8 65 j rfl).trans ((Gs4 65 j rfl))) (fun j => (Gs8 102 j rfl).trans ((Gs4 102 j rfl))) | (exfalso; omega)) (Int.le_antisymm (by omega) (by omega)) (Int.le_antisymm (by omega) (by omega))
set_option maxHeartbeats 100000000 in
theorem g_case_1266 {ns : Nat} (hns : ns ≤ 320) (s0 : h_S) (I0 : h_I s0) (j0 : d_tape s0 s0) (j1 : s0 64 4 = s0 98 16) (j2 : s0 90 2 = s0 98 29) (y3 : Int32) (b3 : Int) (hy3 : y3.toInt = b3) (hr : 0 ≤ b3 ∧ b3 + 5 ≤ ns) {Q : Option Value → h_S → Prop} (kk : ∀ τ, h_I τ → (d_tape τ τ) → (τ 64 4 = τ 98 16) → (τ 90 2 = τ 98 29) → h_T g_P (g_Y ns) 225 1441 [(0, .ref 0), (1, .ref 9), (2, .ref 98), (3, .int y3)] [] τ Q) : h_T g_P (g_Y ns) 225 1266 [(0, .ref 0), (1, .ref 9), (2, .ref 98), (3, .int y3)] [] s0 Q := by
  have F0_ : h_F (fun _ _ => true) s0 s0 := h_F.rf
  have j0_ := j0.2
  have i0 := tf_64_1 I0
  have i1 := tf_98_11 I0
  have i2 := tf_64_4 I0
  have i3 := tf_98_16 I0
  have i4 := tf_90_2 I0
  have i5 := tf_98_29 I0
  have i6 := tf_63_2 I0
  refine h_aload_n (pc' := 1267) rfl rfl rfl ?_
  refine h_aload_n (pc' := 1268) rfl rfl rfl ?_
  refine h_iload_n (pc' := 1269) rfl rfl rfl ?_
  refine h_iconst (pc' := 1270) (x := (Int32.ofInt 1)) rfl rfl rfl ?_
  refine h_iadd (pc' := 1271) rfl rfl hy3 ci_1 rfl (by omega) (by omega) (fun z1 hz1 => ?_)
  refine h_iald (pc' := 1272) (v := s0 0 (b3 + 1)) rfl rfl rfl hz1 (by omega) (by omega) rfl (fun z2 hz2 => ?_)
  have tz2 := h_rgv hz2
  refine h_aload_n (pc' := 1273) rfl rfl rfl ?_
  refine h_iload_n (pc' := 1274) rfl rfl rfl ?_
  refine h_iconst (pc' := 1275) (x := (Int32.ofInt 2)) rfl rfl rfl ?_
  refine h_iadd (pc' := 1276) rfl rfl hy3 ci_2 rfl (by omega) (by omega) (fun z3 hz3 => ?_)
  refine h_iald (pc' := 1277) (v := s0 0 (b3 + 2)) rfl rfl rfl hz3 (by omega) (by omega) rfl (fun z4 hz4 => ?_)
  have tz4 := h_rgv hz4
  refine h_aload_n (pc' := 1278) rfl rfl rfl ?_
  refine h_iload_n (pc' := 1279) rfl rfl rfl ?_
  refine h_iconst (pc' := 1280) (x := (Int32.ofInt 3)) rfl rfl rfl ?_
  refine h_iadd (pc' := 1281) rfl rfl hy3 ci_3 rfl (by omega) (by omega) (fun z5 hz5 => ?_)
  refine h_iald (pc' := 1282) (v := s0 0 (b3 + 3)) rfl rfl rfl hz5 (by omega) (by omega) rfl (fun z6 hz6 => ?_)
  have tz6 := h_rgv hz6
  refine h_call (sp := false) (pc' := 1285) (M := [(0, .ref 9), (1, .int z2), (2, .int z4), (3, .int z6)]) rfl rfl rfl rfl rfl rfl rfl rfl ?_
  refine w_118_9 _ I0 z2 _ hz2 z4 _ hz4 z6 _ hz6 (fun r7 br7 hr7 s8 Is8 Gs8 tr7 => h_Kv ?_)
  have Zs8 : ∀ i, s8 0 i = s0 0 i := fun i => (Gs8 0 i rfl).trans rfl
  have Fs8 : h_F (fun _ _ => true) s8 s0 := fun _ _ h => by cases h
  have es8_0 : s8 64 1 = s0 64 1 := (Gs8 64 1 rfl).trans rfl
  have es8_1 : s8 98 11 = s0 98 11 := (Gs8 98 11 rfl).trans rfl
  have es8_2 : s8 64 4 = s0 64 4 := (Gs8 64 4 rfl).trans rfl
  have es8_3 : s8 98 16 = s0 98 16 := (Gs8 98 16 rfl).trans rfl
  have es8_4 : s8 90 2 = s0 90 2 := (Gs8 90 2 rfl).trans rfl
  have es8_5 : s8 98 29 = s0 98 29 := (Gs8 98 29 rfl).trans rfl
  have es8_6 : s8 63 2 = s0 63 2 := (Gs8 63 2 rfl).trans rfl
  refine h_pop (pc' := 1286) rfl rfl rfl ?_
  refine h_aload_n (pc' := 1287) rfl rfl rfl ?_
  refine h_aload_n (pc' := 1288) rfl rfl rfl ?_
  refine h_iload_n (pc' := 1289) rfl rfl rfl ?_
  refine h_iconst (pc' := 1290) (x := (Int32.ofInt 1)) rfl rfl rfl ?_
  refine h_iadd (pc' := 1291) rfl rfl hy3 ci_1 rfl (by omega) (by omega) (fun z9 hz9 => ?_)
  refine h_iald (pc' := 1292) (v := s0 0 (b3 + 1)) rfl rfl rfl hz9 (by omega) (by omega) (Zs8 _) (fun z10 hz10 => ?_)
  have tz10 := h_rgv hz10
  refine h_aload_n (pc' := 1293) rfl rfl rfl ?_
  refine h_iload_n (pc' := 1294) rfl rfl rfl ?_
  refine h_iconst (pc' := 1295) (x := (Int32.ofInt 2)) rfl rfl rfl ?_
  refine h_iadd (pc' := 1296) rfl rfl hy3 ci_2 rfl (by omega) (by omega) (fun z11 hz11 => ?_)
  refine h_iald (pc' := 1297) (v := s0 0 (b3 + 2)) rfl rfl rfl hz11 (by omega) (by omega) (Zs8 _) (fun z12 hz12 => ?_)
  have tz12 := h_rgv hz12
  refine h_aload_n (pc' := 1298) rfl rfl rfl ?_
  refine h_iload_n (pc' := 1299) rfl rfl rfl ?_
  refine h_iconst (pc' := 1300) (x := (Int32.ofInt 3)) rfl rfl rfl ?_
  refine h_iadd (pc' := 1301) rfl rfl hy3 ci_3 rfl (by omega) (by omega) (fun z13 hz13 => ?_)
  refine h_iald (pc' := 1302) (v := s0 0 (b3 + 3)) rfl rfl rfl hz13 (by omega) (by omega) (Zs8 _) (fun z14 hz14 => ?_)
  have tz14 := h_rgv hz14
  refine h_call (sp := false) (pc' := 1305) (M := [(0, .ref 98), (1, .int z10), (2, .int z12), (3, .int z14)]) rfl rfl rfl rfl rfl rfl rfl rfl ?_
  refine w_220_98 _ Is8 z10 _ hz10 z12 _ hz12 z14 _ hz14 (fun r15 br15 hr15 s16 Is16 Gs16 tr15 => h_Kv ?_)
  have Zs16 : ∀ i, s16 0 i = s0 0 i := fun i => (Gs16 0 i rfl).trans (Zs8 i)
  have Fs16 : h_F (fun _ _ => true) s16 s0 := fun _ _ h => by cases h
  have es16_0 : s16 64 1 = s0 64 1 := (Gs16 64 1 rfl).trans es8_0
  have es16_1 : s16 98 11 = s0 98 11 := (Gs16 98 11 rfl).trans es8_1
  have es16_2 : s16 64 4 = s0 64 4 := (Gs16 64 4 rfl).trans es8_2
  have es16_3 : s16 98 16 = s0 98 16 := (Gs16 98 16 rfl).trans es8_3
  have es16_4 : s16 90 2 = s0 90 2 := (Gs16 90 2 rfl).trans es8_4
  have es16_5 : s16 98 29 = s0 98 29 := (Gs16 98 29 rfl).trans es8_5
  have es16_6 : s16 63 2 = s0 63 2 := (Gs16 63 2 rfl).trans es8_6
  clear es8_0 es8_1 es8_2 es8_3 es8_4 es8_5 es8_6
  refine h_pop (pc' := 1306) rfl rfl rfl ?_
  refine h_goto (pc' := 1441) rfl rfl ?_
  exact kk _ Is16 (by first | exact d_tape.le j0 (Int.le_antisymm (by omega) (by omega)) (by omega) (fun j => (Gs16 65 j rfl).trans ((Gs8 65 j rfl))) (fun j => (Gs16 102 j rfl).trans ((Gs8 102 j rfl))) | (exfalso; omega)) (Int.le_antisymm (by omega) (by omega)) (Int.le_antisymm (by omega) (by omega))
set_option maxHeartbeats 100000000 in
theorem g_case_1309 {ns : Nat} (hns : ns ≤ 320) (s0 : h_S) (I0 : h_I s0) (j0 : d_tape s0 s0) (j1 : s0 64 4 = s0 98 16) (j2 : s0 90 2 = s0 98 29) (y3 : Int32) (b3 : Int) (hy3 : y3.toInt = b3) (hr : 0 ≤ b3 ∧ b3 + 5 ≤ ns) {Q : Option Value → h_S → Prop} (kk : ∀ τ, h_I τ → (d_tape τ τ) → (τ 64 4 = τ 98 16) → (τ 90 2 = τ 98 29) → h_T g_P (g_Y ns) 225 1441 [(0, .ref 0), (1, .ref 9), (2, .ref 98), (3, .int y3)] [] τ Q) : h_T g_P (g_Y ns) 225 1309 [(0, .ref 0), (1, .ref 9), (2, .ref 98), (3, .int y3)] [] s0 Q := by
  have F0_ : h_F (fun _ _ => true) s0 s0 := h_F.rf
  have j0_ := j0.2
  have i0 := tf_64_1 I0
  have i1 := tf_98_11 I0
  have i2 := tf_64_4 I0
  have i3 := tf_98_16 I0
  have i4 := tf_90_2 I0
  have i5 := tf_98_29 I0
  have i6 := tf_63_2 I0
  refine h_aload_n (pc' := 1310) rfl rfl rfl ?_
  refine h_aload_n (pc' := 1311) rfl rfl rfl ?_
  refine h_iload_n (pc' := 1312) rfl rfl rfl ?_
  refine h_iconst (pc' := 1313) (x := (Int32.ofInt 1)) rfl rfl rfl ?_
  refine h_iadd (pc' := 1314) rfl rfl hy3 ci_1 rfl (by omega) (by omega) (fun z1 hz1 => ?_)
  refine h_iald (pc' := 1315) (v := s0 0 (b3 + 1)) rfl rfl rfl hz1 (by omega) (by omega) rfl (fun z2 hz2 => ?_)
  have tz2 := h_rgv hz2
  refine h_aload_n (pc' := 1316) rfl rfl rfl ?_
  refine h_iload_n (pc' := 1317) rfl rfl rfl ?_
  refine h_iconst (pc' := 1318) (x := (Int32.ofInt 2)) rfl rfl rfl ?_
  refine h_iadd (pc' := 1319) rfl rfl hy3 ci_2 rfl (by omega) (by omega) (fun z3 hz3 => ?_)
  refine h_iald (pc' := 1320) (v := s0 0 (b3 + 2)) rfl rfl rfl hz3 (by omega) (by omega) rfl (fun z4 hz4 => ?_)
  have tz4 := h_rgv hz4
  refine h_aload_n (pc' := 1321) rfl rfl rfl ?_
  refine h_iload_n (pc' := 1322) rfl rfl rfl ?_
  refine h_iconst (pc' := 1323) (x := (Int32.ofInt 3)) rfl rfl rfl ?_
  refine h_iadd (pc' := 1324) rfl rfl hy3 ci_3 rfl (by omega) (by omega) (fun z5 hz5 => ?_)
  refine h_iald (pc' := 1325) (v := s0 0 (b3 + 3)) rfl rfl rfl hz5 (by omega) (by omega) rfl (fun z6 hz6 => ?_)
  have tz6 := h_rgv hz6
  refine h_call (sp := false) (pc' := 1328) (M := [(0, .ref 9), (1, .int z2), (2, .int z4), (3, .int z6)]) rfl rfl rfl rfl rfl rfl rfl rfl ?_
  refine w_119_9 _ I0 z2 _ hz2 z4 _ hz4 z6 _ hz6 (fun r7 br7 hr7 s8 Is8 Gs8 tr7 => h_Kv ?_)
  have Zs8 : ∀ i, s8 0 i = s0 0 i := fun i => (Gs8 0 i rfl).trans rfl
  have Fs8 : h_F (fun _ _ => true) s8 s0 := fun _ _ h => by cases h
  have es8_0 : s8 64 1 = s0 64 1 := (Gs8 64 1 rfl).trans rfl
  have es8_1 : s8 98 11 = s0 98 11 := (Gs8 98 11 rfl).trans rfl
  have es8_2 : s8 64 4 = s0 64 4 := (Gs8 64 4 rfl).trans rfl
  have es8_3 : s8 98 16 = s0 98 16 := (Gs8 98 16 rfl).trans rfl
  have es8_4 : s8 90 2 = s0 90 2 := (Gs8 90 2 rfl).trans rfl
  have es8_5 : s8 98 29 = s0 98 29 := (Gs8 98 29 rfl).trans rfl
  have es8_6 : s8 63 2 = s0 63 2 := (Gs8 63 2 rfl).trans rfl
  refine h_pop (pc' := 1329) rfl rfl rfl ?_
  refine h_aload_n (pc' := 1330) rfl rfl rfl ?_
  refine h_aload_n (pc' := 1331) rfl rfl rfl ?_
  refine h_iload_n (pc' := 1332) rfl rfl rfl ?_
  refine h_iconst (pc' := 1333) (x := (Int32.ofInt 1)) rfl rfl rfl ?_
  refine h_iadd (pc' := 1334) rfl rfl hy3 ci_1 rfl (by omega) (by omega) (fun z9 hz9 => ?_)
  refine h_iald (pc' := 1335) (v := s0 0 (b3 + 1)) rfl rfl rfl hz9 (by omega) (by omega) (Zs8 _) (fun z10 hz10 => ?_)
  have tz10 := h_rgv hz10
  refine h_aload_n (pc' := 1336) rfl rfl rfl ?_
  refine h_iload_n (pc' := 1337) rfl rfl rfl ?_
  refine h_iconst (pc' := 1338) (x := (Int32.ofInt 2)) rfl rfl rfl ?_
  refine h_iadd (pc' := 1339) rfl rfl hy3 ci_2 rfl (by omega) (by omega) (fun z11 hz11 => ?_)
  refine h_iald (pc' := 1340) (v := s0 0 (b3 + 2)) rfl rfl rfl hz11 (by omega) (by omega) (Zs8 _) (fun z12 hz12 => ?_)
  have tz12 := h_rgv hz12
  refine h_aload_n (pc' := 1341) rfl rfl rfl ?_
  refine h_iload_n (pc' := 1342) rfl rfl rfl ?_
  refine h_iconst (pc' := 1343) (x := (Int32.ofInt 3)) rfl rfl rfl ?_
  refine h_iadd (pc' := 1344) rfl rfl hy3 ci_3 rfl (by omega) (by omega) (fun z13 hz13 => ?_)
  refine h_iald (pc' := 1345) (v := s0 0 (b3 + 3)) rfl rfl rfl hz13 (by omega) (by omega) (Zs8 _) (fun z14 hz14 => ?_)
  have tz14 := h_rgv hz14
  refine h_call (sp := false) (pc' := 1348) (M := [(0, .ref 98), (1, .int z10), (2, .int z12), (3, .int z14)]) rfl rfl rfl rfl rfl rfl rfl rfl ?_
  refine w_221_98 _ Is8 z10 _ hz10 z12 _ hz12 z14 _ hz14 (fun r15 br15 hr15 s16 Is16 Gs16 tr15 => h_Kv ?_)
  have Zs16 : ∀ i, s16 0 i = s0 0 i := fun i => (Gs16 0 i rfl).trans (Zs8 i)
  have Fs16 : h_F (fun _ _ => true) s16 s0 := fun _ _ h => by cases h
  have es16_0 : s16 64 1 = s0 64 1 := (Gs16 64 1 rfl).trans es8_0
  have es16_1 : s16 98 11 = s0 98 11 := (Gs16 98 11 rfl).trans es8_1
  have es16_2 : s16 64 4 = s0 64 4 := (Gs16 64 4 rfl).trans es8_2
  have es16_3 : s16 98 16 = s0 98 16 := (Gs16 98 16 rfl).trans es8_3
  have es16_4 : s16 90 2 = s0 90 2 := (Gs16 90 2 rfl).trans es8_4
  have es16_5 : s16 98 29 = s0 98 29 := (Gs16 98 29 rfl).trans es8_5
  have es16_6 : s16 63 2 = s0 63 2 := (Gs16 63 2 rfl).trans es8_6
  clear es8_0 es8_1 es8_2 es8_3 es8_4 es8_5 es8_6
  refine h_pop (pc' := 1349) rfl rfl rfl ?_
  refine h_goto (pc' := 1441) rfl rfl ?_
  exact kk _ Is16 (by first | exact d_tape.le j0 (Int.le_antisymm (by omega) (by omega)) (by omega) (fun j => (Gs16 65 j rfl).trans ((Gs8 65 j rfl))) (fun j => (Gs16 102 j rfl).trans ((Gs8 102 j rfl))) | (exfalso; omega)) (Int.le_antisymm (by omega) (by omega)) (Int.le_antisymm (by omega) (by omega))
set_option maxHeartbeats 100000000 in
theorem g_case_1352 {ns : Nat} (hns : ns ≤ 320) (s0 : h_S) (I0 : h_I s0) (j0 : d_tape s0 s0) (j1 : s0 64 4 = s0 98 16) (j2 : s0 90 2 = s0 98 29) (y3 : Int32) (b3 : Int) (hy3 : y3.toInt = b3) (hr : 0 ≤ b3 ∧ b3 + 5 ≤ ns) {Q : Option Value → h_S → Prop} (kk : ∀ τ, h_I τ → (d_tape τ τ) → (τ 64 4 = τ 98 16) → (τ 90 2 = τ 98 29) → h_T g_P (g_Y ns) 225 1441 [(0, .ref 0), (1, .ref 9), (2, .ref 98), (3, .int y3)] [] τ Q) : h_T g_P (g_Y ns) 225 1352 [(0, .ref 0), (1, .ref 9), (2, .ref 98), (3, .int y3)] [] s0 Q := by
  have F0_ : h_F (fun _ _ => true) s0 s0 := h_F.rf
  have j0_ := j0.2
  have i0 := tf_64_1 I0
  have i1 := tf_98_11 I0
  have i2 := tf_64_4 I0
  have i3 := tf_98_16 I0
  have i4 := tf_90_2 I0
  have i5 := tf_98_29 I0
  have i6 := tf_63_2 I0
  refine h_aload_n (pc' := 1353) rfl rfl rfl ?_
  refine h_aload_n (pc' := 1354) rfl rfl rfl ?_
  refine h_iload_n (pc' := 1355) rfl rfl rfl ?_
  refine h_iconst (pc' := 1356) (x := (Int32.ofInt 1)) rfl rfl rfl ?_
  refine h_iadd (pc' := 1357) rfl rfl hy3 ci_1 rfl (by omega) (by omega) (fun z1 hz1 => ?_)
  refine h_iald (pc' := 1358) (v := s0 0 (b3 + 1)) rfl rfl rfl hz1 (by omega) (by omega) rfl (fun z2 hz2 => ?_)
  have tz2 := h_rgv hz2
  refine h_aload_n (pc' := 1359) rfl rfl rfl ?_
  refine h_iload_n (pc' := 1360) rfl rfl rfl ?_
  refine h_iconst (pc' := 1361) (x := (Int32.ofInt 2)) rfl rfl rfl ?_
  refine h_iadd (pc' := 1362) rfl rfl hy3 ci_2 rfl (by omega) (by omega) (fun z3 hz3 => ?_)
  refine h_iald (pc' := 1363) (v := s0 0 (b3 + 2)) rfl rfl rfl hz3 (by omega) (by omega) rfl (fun z4 hz4 => ?_)
  have tz4 := h_rgv hz4
  refine h_aload_n (pc' := 1364) rfl rfl rfl ?_
  refine h_iload_n (pc' := 1365) rfl rfl rfl ?_
  refine h_iconst (pc' := 1366) (x := (Int32.ofInt 3)) rfl rfl rfl ?_
  refine h_iadd (pc' := 1367) rfl rfl hy3 ci_3 rfl (by omega) (by omega) (fun z5 hz5 => ?_)
  refine h_iald (pc' := 1368) (v := s0 0 (b3 + 3)) rfl rfl rfl hz5 (by omega) (by omega) rfl (fun z6 hz6 => ?_)
  have tz6 := h_rgv hz6
  refine h_aload_n (pc' := 1369) rfl rfl rfl ?_
  refine h_iload_n (pc' := 1370) rfl rfl rfl ?_
  refine h_iconst (pc' := 1371) (x := (Int32.ofInt 4)) rfl rfl rfl ?_
  refine h_iadd (pc' := 1372) rfl rfl hy3 ci_4 rfl (by omega) (by omega) (fun z7 hz7 => ?_)
  refine h_iald (pc' := 1373) (v := s0 0 (b3 + 4)) rfl rfl rfl hz7 (by omega) (by omega) rfl (fun z8 hz8 => ?_)
  have tz8 := h_rgv hz8
  refine h_call (sp := false) (pc' := 1376) (M := [(0, .ref 9), (1, .int z2), (2, .int z4), (3, .int z6), (4, .int z8)]) rfl rfl rfl rfl rfl rfl rfl rfl ?_
  refine w_120_9 _ I0 z2 _ hz2 z4 _ hz4 z6 _ hz6 z8 _ hz8 (fun r9 br9 hr9 s10 Is10 Gs10 tr9 => h_Kv ?_)
  have Zs10 : ∀ i, s10 0 i = s0 0 i := fun i => (Gs10 0 i rfl).trans rfl
  have Fs10 : h_F (fun _ _ => true) s10 s0 := fun _ _ h => by cases h
  have es10_0 : s10 64 1 = s0 64 1 := (Gs10 64 1 rfl).trans rfl
  have es10_1 : s10 98 11 = s0 98 11 := (Gs10 98 11 rfl).trans rfl
  have es10_2 : s10 64 4 = s0 64 4 := (Gs10 64 4 rfl).trans rfl
  have es10_3 : s10 98 16 = s0 98 16 := (Gs10 98 16 rfl).trans rfl
  have es10_4 : s10 90 2 = s0 90 2 := (Gs10 90 2 rfl).trans rfl
  have es10_5 : s10 98 29 = s0 98 29 := (Gs10 98 29 rfl).trans rfl
  have es10_6 : s10 63 2 = s0 63 2 := (Gs10 63 2 rfl).trans rfl
  refine h_pop (pc' := 1377) rfl rfl rfl ?_
  refine h_aload_n (pc' := 1378) rfl rfl rfl ?_
  refine h_aload_n (pc' := 1379) rfl rfl rfl ?_
  refine h_iload_n (pc' := 1380) rfl rfl rfl ?_
  refine h_iconst (pc' := 1381) (x := (Int32.ofInt 1)) rfl rfl rfl ?_
  refine h_iadd (pc' := 1382) rfl rfl hy3 ci_1 rfl (by omega) (by omega) (fun z11 hz11 => ?_)
  refine h_iald (pc' := 1383) (v := s0 0 (b3 + 1)) rfl rfl rfl hz11 (by omega) (by omega) (Zs10 _) (fun z12 hz12 => ?_)
  have tz12 := h_rgv hz12
  refine h_aload_n (pc' := 1384) rfl rfl rfl ?_
  refine h_iload_n (pc' := 1385) rfl rfl rfl ?_
  refine h_iconst (pc' := 1386) (x := (Int32.ofInt 2)) rfl rfl rfl ?_
  refine h_iadd (pc' := 1387) rfl rfl hy3 ci_2 rfl (by omega) (by omega) (fun z13 hz13 => ?_)
  refine h_iald (pc' := 1388) (v := s0 0 (b3 + 2)) rfl rfl rfl hz13 (by omega) (by omega) (Zs10 _) (fun z14 hz14 => ?_)
  have tz14 := h_rgv hz14
  refine h_aload_n (pc' := 1389) rfl rfl rfl ?_
  refine h_iload_n (pc' := 1390) rfl rfl rfl ?_
  refine h_iconst (pc' := 1391) (x := (Int32.ofInt 3)) rfl rfl rfl ?_
  refine h_iadd (pc' := 1392) rfl rfl hy3 ci_3 rfl (by omega) (by omega) (fun z15 hz15 => ?_)
  refine h_iald (pc' := 1393) (v := s0 0 (b3 + 3)) rfl rfl rfl hz15 (by omega) (by omega) (Zs10 _) (fun z16 hz16 => ?_)
  have tz16 := h_rgv hz16
  refine h_aload_n (pc' := 1394) rfl rfl rfl ?_
  refine h_iload_n (pc' := 1395) rfl rfl rfl ?_
  refine h_iconst (pc' := 1396) (x := (Int32.ofInt 4)) rfl rfl rfl ?_
  refine h_iadd (pc' := 1397) rfl rfl hy3 ci_4 rfl (by omega) (by omega) (fun z17 hz17 => ?_)
  refine h_iald (pc' := 1398) (v := s0 0 (b3 + 4)) rfl rfl rfl hz17 (by omega) (by omega) (Zs10 _) (fun z18 hz18 => ?_)
  have tz18 := h_rgv hz18
  refine h_call (sp := false) (pc' := 1401) (M := [(0, .ref 98), (1, .int z12), (2, .int z14), (3, .int z16), (4, .int z18)]) rfl rfl rfl rfl rfl rfl rfl rfl ?_
  refine w_222_98 _ Is10 z12 _ hz12 z14 _ hz14 z16 _ hz16 z18 _ hz18 (fun r19 br19 hr19 s20 Is20 Gs20 tr19 => h_Kv ?_)
  have Zs20 : ∀ i, s20 0 i = s0 0 i := fun i => (Gs20 0 i rfl).trans (Zs10 i)
  have Fs20 : h_F (fun _ _ => true) s20 s0 := fun _ _ h => by cases h
  have es20_0 : s20 64 1 = s0 64 1 := (Gs20 64 1 rfl).trans es10_0
  have es20_1 : s20 98 11 = s0 98 11 := (Gs20 98 11 rfl).trans es10_1
  have es20_2 : s20 64 4 = s0 64 4 := (Gs20 64 4 rfl).trans es10_2
  have es20_3 : s20 98 16 = s0 98 16 := (Gs20 98 16 rfl).trans es10_3
  have es20_4 : s20 90 2 = s0 90 2 := (Gs20 90 2 rfl).trans es10_4
  have es20_5 : s20 98 29 = s0 98 29 := (Gs20 98 29 rfl).trans es10_5
  have es20_6 : s20 63 2 = s0 63 2 := (Gs20 63 2 rfl).trans es10_6
  clear es10_0 es10_1 es10_2 es10_3 es10_4 es10_5 es10_6
  refine h_pop (pc' := 1402) rfl rfl rfl ?_
  refine h_goto (pc' := 1441) rfl rfl ?_
  exact kk _ Is20 (by first | exact d_tape.le j0 (Int.le_antisymm (by omega) (by omega)) (by omega) (fun j => (Gs20 65 j rfl).trans ((Gs10 65 j rfl))) (fun j => (Gs20 102 j rfl).trans ((Gs10 102 j rfl))) | (exfalso; omega)) (Int.le_antisymm (by omega) (by omega)) (Int.le_antisymm (by omega) (by omega))
set_option maxHeartbeats 100000000 in
theorem g_case_1405 {ns : Nat} (hns : ns ≤ 320) (s0 : h_S) (I0 : h_I s0) (j0 : d_tape s0 s0) (j1 : s0 64 4 = s0 98 16) (j2 : s0 90 2 = s0 98 29) (y3 : Int32) (b3 : Int) (hy3 : y3.toInt = b3) (hr : 0 ≤ b3 ∧ b3 + 5 ≤ ns) {Q : Option Value → h_S → Prop} (kk : ∀ τ, h_I τ → (d_tape τ τ) → (τ 64 4 = τ 98 16) → (τ 90 2 = τ 98 29) → h_T g_P (g_Y ns) 225 1441 [(0, .ref 0), (1, .ref 9), (2, .ref 98), (3, .int y3)] [] τ Q) : h_T g_P (g_Y ns) 225 1405 [(0, .ref 0), (1, .ref 9), (2, .ref 98), (3, .int y3)] [] s0 Q := by
  have F0_ : h_F (fun _ _ => true) s0 s0 := h_F.rf
  have j0_ := j0.2
  have i0 := tf_64_1 I0
  have i1 := tf_98_11 I0
  have i2 := tf_64_4 I0
  have i3 := tf_98_16 I0
  have i4 := tf_90_2 I0
  have i5 := tf_98_29 I0
  have i6 := tf_63_2 I0
  refine h_aload_n (pc' := 1406) rfl rfl rfl ?_
  refine h_call (sp := false) (pc' := 1409) (M := [(0, .ref 9)]) rfl rfl rfl rfl rfl rfl rfl rfl ?_
  refine w_121_9 _ I0  (fun r1 br1 hr1 s2 Is2 Gs2 => h_Kv ?_)
  have Zs2 : ∀ i, s2 0 i = s0 0 i := fun i => (Gs2 0 i rfl).trans rfl
  have Fs2 : h_F (fun _ _ => true) s2 s0 := fun _ _ h => by cases h
  have es2_0 : s2 64 1 = s0 64 1 := (Gs2 64 1 rfl).trans rfl
  have es2_1 : s2 98 11 = s0 98 11 := (Gs2 98 11 rfl).trans rfl
  have es2_2 : s2 64 4 = s0 64 4 := (Gs2 64 4 rfl).trans rfl
  have es2_3 : s2 98 16 = s0 98 16 := (Gs2 98 16 rfl).trans rfl
  have es2_4 : s2 90 2 = s0 90 2 := (Gs2 90 2 rfl).trans rfl
  have es2_5 : s2 98 29 = s0 98 29 := (Gs2 98 29 rfl).trans rfl
  have es2_6 : s2 63 2 = s0 63 2 := (Gs2 63 2 rfl).trans rfl
  refine h_pop (pc' := 1410) rfl rfl rfl ?_
  refine h_aload_n (pc' := 1411) rfl rfl rfl ?_
  refine h_call (sp := false) (pc' := 1414) (M := [(0, .ref 98)]) rfl rfl rfl rfl rfl rfl rfl rfl ?_
  refine w_223_98 _ Is2  (fun r3 br3 hr3 s4 Is4 Gs4 => h_Kv ?_)
  have Zs4 : ∀ i, s4 0 i = s0 0 i := fun i => (Gs4 0 i rfl).trans (Zs2 i)
  have Fs4 : h_F (fun _ _ => true) s4 s0 := fun _ _ h => by cases h
  have es4_0 : s4 64 1 = s0 64 1 := (Gs4 64 1 rfl).trans es2_0
  have es4_1 : s4 98 11 = s0 98 11 := (Gs4 98 11 rfl).trans es2_1
  have es4_2 : s4 64 4 = s0 64 4 := (Gs4 64 4 rfl).trans es2_2
  have es4_3 : s4 98 16 = s0 98 16 := (Gs4 98 16 rfl).trans es2_3
  have es4_4 : s4 90 2 = s0 90 2 := (Gs4 90 2 rfl).trans es2_4
  have es4_5 : s4 98 29 = s0 98 29 := (Gs4 98 29 rfl).trans es2_5
  have es4_6 : s4 63 2 = s0 63 2 := (Gs4 63 2 rfl).trans es2_6
  clear es2_0 es2_1 es2_2 es2_3 es2_4 es2_5 es2_6
  refine h_pop (pc' := 1415) rfl rfl rfl ?_
  refine h_goto (pc' := 1441) rfl rfl ?_
  exact kk _ Is4 (by first | exact d_tape.le j0 (Int.le_antisymm (by omega) (by omega)) (by omega) (fun j => (Gs4 65 j rfl).trans ((Gs2 65 j rfl))) (fun j => (Gs4 102 j rfl).trans ((Gs2 102 j rfl))) | (exfalso; omega)) (Int.le_antisymm (by omega) (by omega)) (Int.le_antisymm (by omega) (by omega))
set_option maxHeartbeats 100000000 in
theorem g_case_1418 {ns : Nat} (hns : ns ≤ 320) (s0 : h_S) (I0 : h_I s0) (j0 : d_tape s0 s0) (j1 : s0 64 4 = s0 98 16) (j2 : s0 90 2 = s0 98 29) (y3 : Int32) (b3 : Int) (hy3 : y3.toInt = b3) (hr : 0 ≤ b3 ∧ b3 + 5 ≤ ns) {Q : Option Value → h_S → Prop} (kk : ∀ τ, h_I τ → (d_tape τ τ) → (τ 64 4 = τ 98 16) → (τ 90 2 = τ 98 29) → h_T g_P (g_Y ns) 225 1441 [(0, .ref 0), (1, .ref 9), (2, .ref 98), (3, .int y3)] [] τ Q) : h_T g_P (g_Y ns) 225 1418 [(0, .ref 0), (1, .ref 9), (2, .ref 98), (3, .int y3)] [] s0 Q := by
  have F0_ : h_F (fun _ _ => true) s0 s0 := h_F.rf
  have j0_ := j0.2
  have i0 := tf_64_1 I0
  have i1 := tf_98_11 I0
  have i2 := tf_64_4 I0
  have i3 := tf_98_16 I0
  have i4 := tf_90_2 I0
  have i5 := tf_98_29 I0
  have i6 := tf_63_2 I0
  refine h_aload_n (pc' := 1419) rfl rfl rfl ?_
  refine h_aload_n (pc' := 1420) rfl rfl rfl ?_
  refine h_iload_n (pc' := 1421) rfl rfl rfl ?_
  refine h_iconst (pc' := 1422) (x := (Int32.ofInt 1)) rfl rfl rfl ?_
  refine h_iadd (pc' := 1423) rfl rfl hy3 ci_1 rfl (by omega) (by omega) (fun z1 hz1 => ?_)
  refine h_iald (pc' := 1424) (v := s0 0 (b3 + 1)) rfl rfl rfl hz1 (by omega) (by omega) rfl (fun z2 hz2 => ?_)
  have tz2 := h_rgv hz2
  refine h_call (sp := false) (pc' := 1427) (M := [(0, .ref 9), (1, .int z2)]) rfl rfl rfl rfl rfl rfl rfl rfl ?_
  refine w_122_9 _ I0 z2 _ hz2 (fun r3 br3 hr3 s4 Is4 Gs4 => h_Kv ?_)
  have Zs4 : ∀ i, s4 0 i = s0 0 i := fun i => (Gs4 0 i rfl).trans rfl
  have Fs4 : h_F (fun _ _ => true) s4 s0 := fun _ _ h => by cases h
  have es4_0 : s4 64 1 = s0 64 1 := (Gs4 64 1 rfl).trans rfl
  have es4_1 : s4 98 11 = s0 98 11 := (Gs4 98 11 rfl).trans rfl
  have es4_2 : s4 64 4 = s0 64 4 := (Gs4 64 4 rfl).trans rfl
  have es4_3 : s4 98 16 = s0 98 16 := (Gs4 98 16 rfl).trans rfl
  have es4_4 : s4 90 2 = s0 90 2 := (Gs4 90 2 rfl).trans rfl
  have es4_5 : s4 98 29 = s0 98 29 := (Gs4 98 29 rfl).trans rfl
  have es4_6 : s4 63 2 = s0 63 2 := (Gs4 63 2 rfl).trans rfl
  refine h_pop (pc' := 1428) rfl rfl rfl ?_
  refine h_aload_n (pc' := 1429) rfl rfl rfl ?_
  refine h_aload_n (pc' := 1430) rfl rfl rfl ?_
  refine h_iload_n (pc' := 1431) rfl rfl rfl ?_
  refine h_iconst (pc' := 1432) (x := (Int32.ofInt 1)) rfl rfl rfl ?_
  refine h_iadd (pc' := 1433) rfl rfl hy3 ci_1 rfl (by omega) (by omega) (fun z5 hz5 => ?_)
  refine h_iald (pc' := 1434) (v := s0 0 (b3 + 1)) rfl rfl rfl hz5 (by omega) (by omega) (Zs4 _) (fun z6 hz6 => ?_)
  have tz6 := h_rgv hz6
  refine h_call (sp := false) (pc' := 1437) (M := [(0, .ref 98), (1, .int z6)]) rfl rfl rfl rfl rfl rfl rfl rfl ?_
  refine w_224_98 _ Is4 z6 _ hz6 (fun r7 br7 hr7 s8 Is8 Gs8 => h_Kv ?_)
  have Zs8 : ∀ i, s8 0 i = s0 0 i := fun i => (Gs8 0 i rfl).trans (Zs4 i)
  have Fs8 : h_F (fun _ _ => true) s8 s0 := fun _ _ h => by cases h
  have es8_0 : s8 64 1 = s0 64 1 := (Gs8 64 1 rfl).trans es4_0
  have es8_1 : s8 98 11 = s0 98 11 := (Gs8 98 11 rfl).trans es4_1
  have es8_2 : s8 64 4 = s0 64 4 := (Gs8 64 4 rfl).trans es4_2
  have es8_3 : s8 98 16 = s0 98 16 := (Gs8 98 16 rfl).trans es4_3
  have es8_4 : s8 90 2 = s0 90 2 := (Gs8 90 2 rfl).trans es4_4
  have es8_5 : s8 98 29 = s0 98 29 := (Gs8 98 29 rfl).trans es4_5
  have es8_6 : s8 63 2 = s0 63 2 := (Gs8 63 2 rfl).trans es4_6
  clear es4_0 es4_1 es4_2 es4_3 es4_4 es4_5 es4_6
  refine h_pop (pc' := 1438) rfl rfl rfl ?_
  refine h_goto (pc' := 1441) rfl rfl ?_
  exact kk _ Is8 (by first | exact d_tape.le j0 (Int.le_antisymm (by omega) (by omega)) (by omega) (fun j => (Gs8 65 j rfl).trans ((Gs4 65 j rfl))) (fun j => (Gs8 102 j rfl).trans ((Gs4 102 j rfl))) | (exfalso; omega)) (Int.le_antisymm (by omega) (by omega)) (Int.le_antisymm (by omega) (by omega))
theorem g_loop {ns : Nat} (hns : ns ≤ 320) : ∀ (n : Nat) (s0 : h_S), h_I s0 → (d_tape s0 s0) → (s0 64 4 = s0 98 16) → (s0 90 2 = s0 98 29) → ∀ (y3 : Int32) (b3 : Int), y3.toInt = b3 → (0 ≤ b3 ∧ b3 ≤ 320) → 321 - b3 ≤ (n : Int) → h_T g_P (g_Y ns) 225 18 [(0, .ref 0), (1, .ref 9), (2, .ref 98), (3, .int y3)] [] s0 (fun r _ => r = some (.int 1)) := by
  have hnn : (Int32.ofNat ns).toInt = (ns : Int) := nI_toInt (by omega)
  intro n
  induction n with
  | zero => intro s0 I0 j0 j1 j2 y3 b3 hy3 hr hm; exfalso; omega
  | succ n ih =>
    intro s0 I0 j0 j1 j2 y3 b3 hy3 hr hm
    have nx : ∀ τ, h_I τ → (d_tape τ τ) → (τ 64 4 = τ 98 16) → (τ 90 2 = τ 98 29) → b3 + 5 ≤ 320 → h_T g_P (g_Y ns) 225 1441 [(0, .ref 0), (1, .ref 9), (2, .ref 98), (3, .int y3)] [] τ (fun r _ => r = some (.int 1)) := by
      intro τ I1 k0 k1 k2 h5
      refine h_iinc (pc' := 1444) (M := fun z => [(3, .int z), (0, .ref 0), (1, .ref 9), (2, .ref 98)]) rfl rfl rfl rfl hy3 ci_5 rfl (by omega) (by omega) (fun _ => rfl) (fun z hz => ?_)
      refine h_goto (pc' := 18) rfl rfl ?_
      exact h_wk [(0, .ref 0), (1, .ref 9), (2, .ref 98), (3, .int z)] ⟨rfl, rfl, rfl, rfl, trivial⟩ (ih _ I1 k0 k1 k2 z _ hz (by omega) (by omega))
    refine h_iload_n (pc' := 19) rfl rfl rfl ?_
    refine h_aload_n (pc' := 20) rfl rfl rfl ?_
    refine h_alen (pc' := 21) (n := (ns : Int)) rfl rfl rfl hnn (fun z1 hz1 => ?_)
    refine h_iconst (pc' := 22) (x := (Int32.ofInt 5)) rfl rfl rfl ?_
    refine h_isub (pc' := 23) rfl rfl hz1 ci_5 rfl (by omega) (by omega) (fun z2 hz2 => ?_)
    refine h_cgt (tg := 1447) (pc' := 26) rfl rfl rfl hy3 hz2 (fun c3 => ?_) (fun c3 => ?_)
    · refine h_iconst (pc' := 1448) (x := (Int32.ofInt 1)) rfl rfl rfl ?_
      exact h_zret rfl rfl ci_1 (by omega) rfl
    · refine h_aload_n (pc' := 27) rfl rfl rfl ?_
      refine h_iload_n (pc' := 28) rfl rfl rfl ?_
      refine h_iald (pc' := 29) (v := s0 0 b3) rfl rfl rfl hy3 (by omega) (by omega) rfl (fun z4 hz4 => ?_)
      have tz4 := h_rgv hz4
      refine h_bipush (pc' := 31) (x := (Int32.ofInt 63)) rfl rfl cb_63 ?_
      refine h_iand (pc' := 32) rfl rfl (fun z5 hz5 uz5 vz5 => ?_)
      clear uz5
      rw [ci_63] at vz5
      have yz5 := vz5 (by omega)
      refine h_tsw (dt := 1441) (ts := [212, 235, 258, 271, 284, 307, 340, 373, 406, 429, 462, 495, 538, 571, 604, 637, 680, 703, 726, 759, 782, 805, 838, 881, 914, 927, 950, 983, 1026, 1075, 1098, 1121, 1144, 1177, 1220, 1243, 1266, 1309, 1352, 1405, 1418]) rfl rfl rfl rfl rfl (fun c6 => ?_) ⟨fun c6 => ?_, fun c6 => ?_, fun c6 => ?_, fun c6 => ?_, fun c6 => ?_, fun c6 => ?_, fun c6 => ?_, fun c6 => ?_, fun c6 => ?_, fun c6 => ?_, fun c6 => ?_, fun c6 => ?_, fun c6 => ?_, fun c6 => ?_, fun c6 => ?_, fun c6 => ?_, fun c6 => ?_, fun c6 => ?_, fun c6 => ?_, fun c6 => ?_, fun c6 => ?_, fun c6 => ?_, fun c6 => ?_, fun c6 => ?_, fun c6 => ?_, fun c6 => ?_, fun c6 => ?_, fun c6 => ?_, fun c6 => ?_, fun c6 => ?_, fun c6 => ?_, fun c6 => ?_, fun c6 => ?_, fun c6 => ?_, fun c6 => ?_, fun c6 => ?_, fun c6 => ?_, fun c6 => ?_, fun c6 => ?_, fun c6 => ?_, fun c6 => ?_, trivial⟩
      · exact nx _ I0 j0 j1 j2 (by omega)
      · exact g_case_212 hns _ I0 j0 j1 j2 y3 b3 hy3 (by omega) (fun τ I1 k0 k1 k2 => nx τ I1 k0 k1 k2 (by omega))
      · exact g_case_235 hns _ I0 j0 j1 j2 y3 b3 hy3 (by omega) (fun τ I1 k0 k1 k2 => nx τ I1 k0 k1 k2 (by omega))
      · exact g_case_258 hns _ I0 j0 j1 j2 y3 b3 hy3 (by omega) (fun τ I1 k0 k1 k2 => nx τ I1 k0 k1 k2 (by omega))
      · exact g_case_271 hns _ I0 j0 j1 j2 y3 b3 hy3 (by omega) (fun τ I1 k0 k1 k2 => nx τ I1 k0 k1 k2 (by omega))
      · exact g_case_284 hns _ I0 j0 j1 j2 y3 b3 hy3 (by omega) (fun τ I1 k0 k1 k2 => nx τ I1 k0 k1 k2 (by omega))
      · exact g_case_307 hns _ I0 j0 j1 j2 y3 b3 hy3 (by omega) (fun τ I1 k0 k1 k2 => nx τ I1 k0 k1 k2 (by omega))
      · exact g_case_340 hns _ I0 j0 j1 j2 y3 b3 hy3 (by omega) (fun τ I1 k0 k1 k2 => nx τ I1 k0 k1 k2 (by omega))
      · exact g_case_373 hns _ I0 j0 j1 j2 y3 b3 hy3 (by omega) (fun τ I1 k0 k1 k2 => nx τ I1 k0 k1 k2 (by omega))
      · exact g_case_406 hns _ I0 j0 j1 j2 y3 b3 hy3 (by omega) (fun τ I1 k0 k1 k2 => nx τ I1 k0 k1 k2 (by omega))
      · exact g_case_429 hns _ I0 j0 j1 j2 y3 b3 hy3 (by omega) (fun τ I1 k0 k1 k2 => nx τ I1 k0 k1 k2 (by omega))
      · exact g_case_462 hns _ I0 j0 j1 j2 y3 b3 hy3 (by omega) (fun τ I1 k0 k1 k2 => nx τ I1 k0 k1 k2 (by omega))
      · exact g_case_495 hns _ I0 j0 j1 j2 y3 b3 hy3 (by omega) (fun τ I1 k0 k1 k2 => nx τ I1 k0 k1 k2 (by omega))
      · exact g_case_538 hns _ I0 j0 j1 j2 y3 b3 hy3 (by omega) (fun τ I1 k0 k1 k2 => nx τ I1 k0 k1 k2 (by omega))
      · exact g_case_571 hns _ I0 j0 j1 j2 y3 b3 hy3 (by omega) (fun τ I1 k0 k1 k2 => nx τ I1 k0 k1 k2 (by omega))
      · exact g_case_604 hns _ I0 j0 j1 j2 y3 b3 hy3 (by omega) (fun τ I1 k0 k1 k2 => nx τ I1 k0 k1 k2 (by omega))
      · exact g_case_637 hns _ I0 j0 j1 j2 y3 b3 hy3 (by omega) (fun τ I1 k0 k1 k2 => nx τ I1 k0 k1 k2 (by omega))
      · exact g_case_680 hns _ I0 j0 j1 j2 y3 b3 hy3 (by omega) (fun τ I1 k0 k1 k2 => nx τ I1 k0 k1 k2 (by omega))
      · exact g_case_703 hns _ I0 j0 j1 j2 y3 b3 hy3 (by omega) (fun τ I1 k0 k1 k2 => nx τ I1 k0 k1 k2 (by omega))
      · exact g_case_726 hns _ I0 j0 j1 j2 y3 b3 hy3 (by omega) (fun τ I1 k0 k1 k2 => nx τ I1 k0 k1 k2 (by omega))
      · exact g_case_759 hns _ I0 j0 j1 j2 y3 b3 hy3 (by omega) (fun τ I1 k0 k1 k2 => nx τ I1 k0 k1 k2 (by omega))
      · exact g_case_782 hns _ I0 j0 j1 j2 y3 b3 hy3 (by omega) (fun τ I1 k0 k1 k2 => nx τ I1 k0 k1 k2 (by omega))
      · exact g_case_805 hns _ I0 j0 j1 j2 y3 b3 hy3 (by omega) (fun τ I1 k0 k1 k2 => nx τ I1 k0 k1 k2 (by omega))
      · exact g_case_838 hns _ I0 j0 j1 j2 y3 b3 hy3 (by omega) (fun τ I1 k0 k1 k2 => nx τ I1 k0 k1 k2 (by omega))
      · exact g_case_881 hns _ I0 j0 j1 j2 y3 b3 hy3 (by omega) (fun τ I1 k0 k1 k2 => nx τ I1 k0 k1 k2 (by omega))
      · exact g_case_914 hns _ I0 j0 j1 j2 y3 b3 hy3 (by omega) (fun τ I1 k0 k1 k2 => nx τ I1 k0 k1 k2 (by omega))
      · exact g_case_927 hns _ I0 j0 j1 j2 y3 b3 hy3 (by omega) (fun τ I1 k0 k1 k2 => nx τ I1 k0 k1 k2 (by omega))
      · exact g_case_950 hns _ I0 j0 j1 j2 y3 b3 hy3 (by omega) (fun τ I1 k0 k1 k2 => nx τ I1 k0 k1 k2 (by omega))
      · exact g_case_983 hns _ I0 j0 j1 j2 y3 b3 hy3 (by omega) (fun τ I1 k0 k1 k2 => nx τ I1 k0 k1 k2 (by omega))
      · exact g_case_1026 hns _ I0 j0 j1 j2 y3 b3 hy3 (by omega) (fun τ I1 k0 k1 k2 => nx τ I1 k0 k1 k2 (by omega))
      · exact g_case_1075 hns _ I0 j0 j1 j2 y3 b3 hy3 (by omega) (fun τ I1 k0 k1 k2 => nx τ I1 k0 k1 k2 (by omega))
      · exact g_case_1098 hns _ I0 j0 j1 j2 y3 b3 hy3 (by omega) (fun τ I1 k0 k1 k2 => nx τ I1 k0 k1 k2 (by omega))
      · exact g_case_1121 hns _ I0 j0 j1 j2 y3 b3 hy3 (by omega) (fun τ I1 k0 k1 k2 => nx τ I1 k0 k1 k2 (by omega))
      · exact g_case_1144 hns _ I0 j0 j1 j2 y3 b3 hy3 (by omega) (fun τ I1 k0 k1 k2 => nx τ I1 k0 k1 k2 (by omega))
      · exact g_case_1177 hns _ I0 j0 j1 j2 y3 b3 hy3 (by omega) (fun τ I1 k0 k1 k2 => nx τ I1 k0 k1 k2 (by omega))
      · exact g_case_1220 hns _ I0 j0 j1 j2 y3 b3 hy3 (by omega) (fun τ I1 k0 k1 k2 => nx τ I1 k0 k1 k2 (by omega))
      · exact g_case_1243 hns _ I0 j0 j1 j2 y3 b3 hy3 (by omega) (fun τ I1 k0 k1 k2 => nx τ I1 k0 k1 k2 (by omega))
      · exact g_case_1266 hns _ I0 j0 j1 j2 y3 b3 hy3 (by omega) (fun τ I1 k0 k1 k2 => nx τ I1 k0 k1 k2 (by omega))
      · exact g_case_1309 hns _ I0 j0 j1 j2 y3 b3 hy3 (by omega) (fun τ I1 k0 k1 k2 => nx τ I1 k0 k1 k2 (by omega))
      · exact g_case_1352 hns _ I0 j0 j1 j2 y3 b3 hy3 (by omega) (fun τ I1 k0 k1 k2 => nx τ I1 k0 k1 k2 (by omega))
      · exact g_case_1405 hns _ I0 j0 j1 j2 y3 b3 hy3 (by omega) (fun τ I1 k0 k1 k2 => nx τ I1 k0 k1 k2 (by omega))
      · exact g_case_1418 hns _ I0 j0 j1 j2 y3 b3 hy3 (by omega) (fun τ I1 k0 k1 k2 => nx τ I1 k0 k1 k2 (by omega))
theorem x_lv_ok : h_loc [(0, .ref 0), (1, .ref 9), (2, .ref 98), (3, .int 0)] x_lv := by
  intro p hp
  simp only [List.mem_cons, List.not_mem_nil, or_false] at hp
  rcases hp with rfl | rfl | rfl | rfl <;> rfl
theorem x_j0 (l : List Int32) : d_tape (f_σ l) (f_σ l) := d_tape.z (by rw [f_at (q := 64) (j := 1) rfl]; decide) (by rw [f_at (q := 98) (j := 11) rfl]; decide)
theorem x_j1 (l : List Int32) : f_σ l 64 4 = f_σ l 98 16 := by
  rw [f_at (q := 64) (j := 4) rfl, f_at (q := 98) (j := 16) rfl]
  decide
theorem x_j2 (l : List Int32) : f_σ l 90 2 = f_σ l 98 29 := by
  rw [f_at (q := 90) (j := 2) rfl, f_at (q := 98) (j := 29) rfl]
  decide
set_option maxRecDepth 1000000 in
theorem g_law_run (l : List Int32) (hl : l.length ≤ 320) : ∃ (n : Nat) (mem' : List e_C), e_run g_P n g_law 0 [(0, .ref 0)] [] (.inl (false, l) :: x_t8) = some (some (.int 1), mem') ∧ mem'.length = 114 ∧ e_sl mem' = 2414 + l.length := by
  obtain ⟨y, τ, h1, h2, h3⟩ := g_loop hl 400 (f_σ l) (f_I0 l) (x_j0 l) (x_j1 l) (x_j2 l) 0 0 rfl (by omega) (by omega) x_lv (.inl (false, l) :: x_full) x_lv_ok (f_R0 l)
  obtain ⟨n, hn⟩ := f_law _ h1
  obtain ⟨r, mem'⟩ := y
  have h3 : r = some (.int 1) := h3
  subst h3
  exact ⟨n, mem', hn, h2.1, h2.2.1⟩
