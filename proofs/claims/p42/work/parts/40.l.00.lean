/-! THE LAW -/
set_option maxHeartbeats 100000000 in
theorem g_case_212 {ns : Nat} (hns : ns ≤ 320) (s0 : h_S) (I0 : h_I s0) (j0 : d_tape s0 s0) (j1 : s0 64 4 = s0 98 16) (j2 : c_R true s0) (j3 : g_ti s0) (j4 : g_SH s0) (j5 : s0 90 2 = s0 98 29) (y3 : Int32) (b3 : Int) (hy3 : y3.toInt = b3) (hr : 0 ≤ b3 ∧ b3 + 5 ≤ ns) {Q : Option Value → h_S → Prop} (kk : ∀ τ, h_I τ → (d_tape τ τ) → (τ 64 4 = τ 98 16) → (c_R true τ) → (g_ti τ) → (g_SH τ) → (τ 90 2 = τ 98 29) → h_T g_P (g_Y ns) 225 1441 [(0, .ref 0), (1, .ref 9), (2, .ref 98), (3, .int y3)] [] τ Q) : h_T g_P (g_Y ns) 225 212 [(0, .ref 0), (1, .ref 9), (2, .ref 98), (3, .int y3)] [] s0 Q := by
  have F0_ : h_F (fun _ _ => true) s0 s0 := h_F.rf
  have j0_ := j0.2
  have i0 := tf_64_1 I0
  have i1 := tf_98_11 I0
  have i2 := tf_64_4 I0
  have i3 := tf_98_16 I0
  have i4 := tf_90_2 I0
  have i5 := tf_98_29 I0
  refine h_aload_n (pc' := 213) rfl rfl rfl ?_
  refine h_aload_n (pc' := 214) rfl rfl rfl ?_
  refine h_iload_n (pc' := 215) rfl rfl rfl ?_
  refine h_iconst (pc' := 216) (x := (Int32.ofInt 1)) rfl rfl rfl ?_
  refine h_iadd (pc' := 217) rfl rfl hy3 ci_1 rfl (by omega) (by omega) (fun z1 hz1 => ?_)
  refine h_iald (pc' := 218) (v := s0 0 (b3 + 1)) rfl rfl rfl hz1 (by omega) (by omega) rfl (fun z2 hz2 => ?_)
  have tz2 := h_rgv hz2
  clear hz1
  refine h_call (sp := false) (pc' := 221) (M := [(0, .ref 9), (1, .int z2)]) rfl rfl rfl rfl rfl rfl rfl rfl ?_
  refine h_iload_n (pc' := 1) rfl rfl rfl ?_
  refine h_zlt (tg := 10) (pc' := 4) rfl rfl rfl hz2 (fun c3 => ?_) (fun c3 => ?_)
  · refine h_iconst (pc' := 11) (x := (Int32.ofInt (-1))) rfl rfl rfl ?_
    refine h_iret rfl rfl (h_Kv ?_)
    clear hz2
    refine h_pop (pc' := 222) rfl rfl rfl ?_
    refine h_aload_n (pc' := 223) rfl rfl rfl ?_
    refine h_aload_n (pc' := 224) rfl rfl rfl ?_
    refine h_iload_n (pc' := 225) rfl rfl rfl ?_
    refine h_iconst (pc' := 226) (x := (Int32.ofInt 1)) rfl rfl rfl ?_
    refine h_iadd (pc' := 227) rfl rfl hy3 ci_1 rfl (by omega) (by omega) (fun z4 hz4 => ?_)
    refine h_iald (pc' := 228) (v := s0 0 (b3 + 1)) rfl rfl rfl hz4 (by omega) (by omega) rfl (fun z5 hz5 => ?_)
    have tz5 := h_rgv hz5
    clear hz4
    refine h_call (sp := false) (pc' := 231) (M := [(0, .ref 98), (1, .int z5)]) rfl rfl rfl rfl rfl rfl rfl rfl ?_
    refine h_iload_n (pc' := 1) rfl rfl rfl ?_
    refine h_i2l (pc' := 2) rfl rfl hz5 (fun z6 hz6 => ?_)
    refine h_lconst (pc' := 3) (x := (Int64.ofInt 0)) rfl rfl rfl ?_
    refine h_ldc2 (pc' := 6) (x := (Int64.ofInt 127)) rfl rfl rfl ?_
    refine h_calls (pc' := 9) (M := [(0, .long z6), (2, .long (Int64.ofInt 0)), (4, .long (Int64.ofInt 127))]) rfl rfl rfl rfl rfl rfl ?_
    refine h_lload_n (pc' := 1) rfl rfl rfl ?_
    refine h_lload_n (pc' := 2) rfl rfl rfl ?_
    refine h_lcmp (pc' := 3) rfl rfl hz6 cl_0 (fun z7 hz7 => ?_)
    refine h_zlt (tg := 17) (pc' := 6) rfl rfl rfl rfl (fun c8 => ?_) (fun c8 => absurd c8 (by omega))
    replace c8 := (h_lcr hz7).1 c8
    clear hz7
    refine h_iconst (pc' := 18) (x := (Int32.ofInt 0)) rfl rfl rfl ?_
    refine h_zret rfl rfl ci_0 (by omega) (h_Kv ?_)
    clear hz6
    refine h_zne (tg := 14) (pc' := 12) rfl rfl rfl ci_0 (fun c9 => absurd (Int.le_antisymm (by omega) (by omega)) c9) (fun c9 => ?_)
    refine h_iconst (pc' := 13) (x := (Int32.ofInt (-1))) rfl rfl rfl ?_
    refine h_iret rfl rfl (h_Kv ?_)
    clear hz5
    refine h_pop (pc' := 232) rfl rfl rfl ?_
    refine h_goto (pc' := 1441) rfl rfl ?_
    exact kk _ I0 (by first | exact d_tape.le j0 (Int.le_antisymm (by omega) (by omega)) (by omega) (fun j => rfl) (fun j => rfl) | (exfalso; omega)) (Int.le_antisymm (by omega) (by omega)) j2 (g_ti.e j3 rfl) (g_SH.e j4 rfl rfl rfl rfl rfl rfl) (Int.le_antisymm (by omega) (by omega))
  · refine h_iload_n (pc' := 5) rfl rfl rfl ?_
    refine h_bipush (pc' := 7) (x := (Int32.ofInt 127)) rfl rfl cb_127 ?_
    refine h_cle (tg := 12) (pc' := 10) rfl rfl rfl hz2 ci_127 (fun c10 => ?_) (fun c10 => ?_)
    · refine h_aload_n (pc' := 13) rfl rfl rfl ?_
      refine h_getR (pc' := 16) rfl rfl rfl rfl rfl ?_
      refine h_getR (pc' := 19) rfl rfl rfl rfl rfl ?_
      refine h_iload_n (pc' := 20) rfl rfl rfl ?_
      refine h_call (sp := false) (pc' := 23) (M := [(0, .ref 64), (1, .int z2)]) rfl rfl rfl rfl rfl rfl rfl rfl ?_
      refine h_aload_n (pc' := 1) rfl rfl rfl ?_
      refine h_getI (pc' := 4) (v := s0 64 1) rfl rfl rfl rfl rfl rfl (fun z11 hz11 => ?_)
      have tz11 := tf_64_1 I0
      refine h_sipush (pc' := 7) (x := (Int32.ofInt 160)) rfl rfl cs_160 ?_
      refine h_clt (tg := 12) (pc' := 10) rfl rfl rfl hz11 ci_160 (fun c12 => ?_) (fun c12 => ?_)
      · clear hz11
        refine h_aload_n (pc' := 13) rfl rfl rfl ?_
        refine h_getR (pc' := 16) rfl rfl rfl rfl rfl ?_
        refine h_aload_n (pc' := 17) rfl rfl rfl ?_
        refine h_getI (pc' := 20) (v := s0 64 1) rfl rfl rfl rfl rfl rfl (fun z13 hz13 => ?_)
        refine h_iload_n (pc' := 21) rfl rfl rfl ?_
        refine h_iast (pc' := 22) rfl rfl rfl rfl hz13 (by omega) (by omega) hz2 (h_fgt (E := fun s => s 64 1 = s0 64 1 ∧ s 98 11 = s0 98 11 ∧ s 64 4 = s0 64 4 ∧ s 98 16 = s0 98 16 ∧ s 90 2 = s0 90 2 ∧ s 98 29 = s0 98 29 ∧ s = h_up s0 65 (s0 64 1) (s0 0 (b3 + 1))) _ (in_65 I0 (by omega)) (F0_.up rfl) ⟨rfl, rfl, rfl, rfl, rfl, rfl, rfl⟩ (fun s14 Is14 Fs14 (es14 : s14 64 1 = s0 64 1 ∧ s14 98 11 = s0 98 11 ∧ s14 64 4 = s0 64 4 ∧ s14 98 16 = s0 98 16 ∧ s14 90 2 = s0 90 2 ∧ s14 98 29 = s0 98 29 ∧ s14 = h_up s0 65 (s0 64 1) (s0 0 (b3 + 1))) => ?_))
        have us14 := es14.2.2.2.2.2.2
        have Zs14 : ∀ i, s14 0 i = s0 0 i := fun i => (h_upo us14 rfl i).trans rfl
        clear hz13
        refine h_aload_n (pc' := 23) rfl rfl rfl ?_
        refine h_dup (pc' := 24) rfl rfl rfl ?_
        refine h_getI (pc' := 27) (v := s0 64 1) rfl rfl rfl rfl rfl es14.1 (fun z15 hz15 => ?_)
        refine h_iconst (pc' := 28) (x := (Int32.ofInt 1)) rfl rfl rfl ?_
        refine h_iadd (pc' := 29) rfl rfl hz15 ci_1 rfl (by omega) (by omega) (fun z16 hz16 => ?_)
        clear hz15
        refine h_put (pc' := 32) rfl rfl rfl rfl rfl rfl hz16 rfl (h_fgt (E := fun s => s 64 1 = ((s0 64 1) + 1) ∧ s 98 11 = s0 98 11 ∧ s 64 4 = s0 64 4 ∧ s 98 16 = s0 98 16 ∧ s 90 2 = s0 90 2 ∧ s 98 29 = s0 98 29 ∧ s = h_up s14 64 1 ((s0 64 1) + 1)) _ (if_64_1 Is14 (by omega)) (Fs14.up rfl) ⟨rfl, es14.2.1, es14.2.2.1, es14.2.2.2.1, es14.2.2.2.2.1, es14.2.2.2.2.2.1, rfl⟩ (fun s17 Is17 Fs17 (es17 : s17 64 1 = ((s0 64 1) + 1) ∧ s17 98 11 = s0 98 11 ∧ s17 64 4 = s0 64 4 ∧ s17 98 16 = s0 98 16 ∧ s17 90 2 = s0 90 2 ∧ s17 98 29 = s0 98 29 ∧ s17 = h_up s14 64 1 ((s0 64 1) + 1)) => ?_))
        clear es14
        have us17 := es17.2.2.2.2.2.2
        have Zs17 : ∀ i, s17 0 i = s0 0 i := fun i => (h_upo us17 rfl i).trans (Zs14 i)
        refine h_iconst (pc' := 33) (x := (Int32.ofInt 1)) rfl rfl rfl ?_
        refine h_zret rfl rfl ci_1 (by omega) (h_Kv ?_)
        refine h_zeq (tg := 39) (pc' := 26) rfl rfl rfl ci_1 (fun c18 => absurd c18 (by omega)) (fun c18 => ?_)
        refine h_aload_n (pc' := 27) rfl rfl rfl ?_
        refine h_getR (pc' := 30) rfl rfl rfl rfl rfl ?_
        refine h_getR (pc' := 33) rfl rfl rfl rfl rfl ?_
        refine h_getI (pc' := 36) (v := ((s0 64 1) + 1)) rfl rfl rfl rfl rfl es17.1 (fun z19 hz19 => ?_)
        refine h_goto (pc' := 41) rfl rfl ?_
        refine h_iret rfl rfl (h_Kv ?_)
        clear hz2
        refine h_pop (pc' := 222) rfl rfl rfl ?_
        clear hz19
        refine h_aload_n (pc' := 223) rfl rfl rfl ?_
        refine h_aload_n (pc' := 224) rfl rfl rfl ?_
        refine h_iload_n (pc' := 225) rfl rfl rfl ?_
        refine h_iconst (pc' := 226) (x := (Int32.ofInt 1)) rfl rfl rfl ?_
        refine h_iadd (pc' := 227) rfl rfl hy3 ci_1 rfl (by omega) (by omega) (fun z20 hz20 => ?_)
        refine h_iald (pc' := 228) (v := s0 0 (b3 + 1)) rfl rfl rfl hz20 (by omega) (by omega) (Zs17 _) (fun z21 hz21 => ?_)
        have tz21 := h_rgv hz21
        clear hz20
        refine h_call (sp := false) (pc' := 231) (M := [(0, .ref 98), (1, .int z21)]) rfl rfl rfl rfl rfl rfl rfl rfl ?_
        refine h_iload_n (pc' := 1) rfl rfl rfl ?_
        refine h_i2l (pc' := 2) rfl rfl hz21 (fun z22 hz22 => ?_)
        refine h_lconst (pc' := 3) (x := (Int64.ofInt 0)) rfl rfl rfl ?_
        refine h_ldc2 (pc' := 6) (x := (Int64.ofInt 127)) rfl rfl rfl ?_
        refine h_calls (pc' := 9) (M := [(0, .long z22), (2, .long (Int64.ofInt 0)), (4, .long (Int64.ofInt 127))]) rfl rfl rfl rfl rfl rfl ?_
        refine h_lload_n (pc' := 1) rfl rfl rfl ?_
        refine h_lload_n (pc' := 2) rfl rfl rfl ?_
        refine h_lcmp (pc' := 3) rfl rfl hz22 cl_0 (fun z23 hz23 => ?_)
        refine h_zlt (tg := 17) (pc' := 6) rfl rfl rfl rfl (fun c24 => absurd c24 (by omega)) (fun c24 => ?_)
        replace c24 := (h_lcr hz23).2.1 c24
        clear hz23
        refine h_lload_n (pc' := 7) rfl rfl rfl ?_
        refine h_lload (pc' := 9) rfl rfl rfl ?_
        refine h_lcmp (pc' := 10) rfl rfl hz22 cl_127 (fun z25 hz25 => ?_)
        refine h_zgt (tg := 17) (pc' := 13) rfl rfl rfl rfl (fun c26 => absurd c26 (by omega)) (fun c26 => ?_)
        replace c26 := (h_lcr hz25).2.2.1 c26
        clear hz25
        refine h_iconst (pc' := 14) (x := (Int32.ofInt 1)) rfl rfl rfl ?_
        refine h_goto (pc' := 18) rfl rfl ?_
        refine h_zret rfl rfl ci_1 (by omega) (h_Kv ?_)
        clear hz22
        refine h_zne (tg := 14) (pc' := 12) rfl rfl rfl ci_1 (fun c27 => ?_) (fun c27 => absurd c27 (by omega))
        refine h_aload_n (pc' := 15) rfl rfl rfl ?_
        refine h_getI (pc' := 18) (v := s0 98 11) rfl rfl rfl rfl rfl es17.2.1 (fun z28 hz28 => ?_)
        have tz28 := tf_98_11 I0
        refine h_sipush (pc' := 21) (x := (Int32.ofInt 160)) rfl rfl cs_160 ?_
        refine h_cne (tg := 27) (pc' := 24) rfl rfl rfl hz28 ci_160 (fun c29 => ?_) (fun c29 => absurd c29 (by omega))
        clear hz28
        refine h_aload_n (pc' := 28) rfl rfl rfl ?_
        refine h_getR (pc' := 31) rfl rfl rfl rfl rfl ?_
        refine h_aload_n (pc' := 32) rfl rfl rfl ?_
        refine h_getI (pc' := 35) (v := s0 98 11) rfl rfl rfl rfl rfl es17.2.1 (fun z30 hz30 => ?_)
        refine h_iload_n (pc' := 36) rfl rfl rfl ?_
        refine h_iast (pc' := 37) rfl rfl rfl rfl hz30 (by omega) (by omega) hz21 (h_fgt (E := fun s => s 64 1 = ((s0 64 1) + 1) ∧ s 98 11 = s0 98 11 ∧ s 64 4 = s0 64 4 ∧ s 98 16 = s0 98 16 ∧ s 90 2 = s0 90 2 ∧ s 98 29 = s0 98 29 ∧ s = h_up s17 102 (s0 98 11) (s0 0 (b3 + 1))) _ (in_102 Is17 (by omega)) (Fs17.up rfl) ⟨es17.1, es17.2.1, es17.2.2.1, es17.2.2.2.1, es17.2.2.2.2.1, es17.2.2.2.2.2.1, rfl⟩ (fun s31 Is31 Fs31 (es31 : s31 64 1 = ((s0 64 1) + 1) ∧ s31 98 11 = s0 98 11 ∧ s31 64 4 = s0 64 4 ∧ s31 98 16 = s0 98 16 ∧ s31 90 2 = s0 90 2 ∧ s31 98 29 = s0 98 29 ∧ s31 = h_up s17 102 (s0 98 11) (s0 0 (b3 + 1))) => ?_))
        clear es17
        have us31 := es31.2.2.2.2.2.2
        have Zs31 : ∀ i, s31 0 i = s0 0 i := fun i => (h_upo us31 rfl i).trans (Zs17 i)
        clear hz30
        refine h_aload_n (pc' := 38) rfl rfl rfl ?_
        refine h_dup (pc' := 39) rfl rfl rfl ?_
        refine h_getI (pc' := 42) (v := s0 98 11) rfl rfl rfl rfl rfl es31.2.1 (fun z32 hz32 => ?_)
        refine h_iconst (pc' := 43) (x := (Int32.ofInt 1)) rfl rfl rfl ?_
        refine h_iadd (pc' := 44) rfl rfl hz32 ci_1 rfl (by omega) (by omega) (fun z33 hz33 => ?_)
        clear hz32
        refine h_put (pc' := 47) rfl rfl rfl rfl rfl rfl hz33 rfl (h_fgt (E := fun s => s 64 1 = ((s0 64 1) + 1) ∧ s 98 11 = ((s0 98 11) + 1) ∧ s 64 4 = s0 64 4 ∧ s 98 16 = s0 98 16 ∧ s 90 2 = s0 90 2 ∧ s 98 29 = s0 98 29 ∧ s = h_up s31 98 11 ((s0 98 11) + 1)) _ (if_98_11 Is31 (by omega)) (Fs31.up rfl) ⟨es31.1, rfl, es31.2.2.1, es31.2.2.2.1, es31.2.2.2.2.1, es31.2.2.2.2.2.1, rfl⟩ (fun s34 Is34 Fs34 (es34 : s34 64 1 = ((s0 64 1) + 1) ∧ s34 98 11 = ((s0 98 11) + 1) ∧ s34 64 4 = s0 64 4 ∧ s34 98 16 = s0 98 16 ∧ s34 90 2 = s0 90 2 ∧ s34 98 29 = s0 98 29 ∧ s34 = h_up s31 98 11 ((s0 98 11) + 1)) => ?_))
        clear es31
        have us34 := es34.2.2.2.2.2.2
        have Zs34 : ∀ i, s34 0 i = s0 0 i := fun i => (h_upo us34 rfl i).trans (Zs31 i)
        refine h_aload_n (pc' := 48) rfl rfl rfl ?_
        refine h_getI (pc' := 51) (v := ((s0 98 11) + 1)) rfl rfl rfl rfl rfl es34.2.1 (fun z35 hz35 => ?_)
        refine h_iret rfl rfl (h_Kv ?_)
        clear hz21
        refine h_pop (pc' := 232) rfl rfl rfl ?_
        clear hz35
        refine h_goto (pc' := 1441) rfl rfl ?_
        exact kk _ Is34 (by first | exact d_tape.fd j0 (Int.le_antisymm (by omega) (by omega)) (Int.le_antisymm (by omega) (by omega)) (fun j => (h_upo us34 rfl j).trans ((h_upo us31 rfl j).trans ((h_upo us17 rfl j).trans ((h_upi us14 j))))) (fun j => (h_upo us34 rfl j).trans ((h_upi us31 j).trans (congrArg (fun z => if j = (s0 98 11) then (s0 0 (b3 + 1)) else z) ((h_upo us17 rfl j).trans ((h_upo us14 rfl j)))))) (Int.le_antisymm (by omega) (by omega)) | (exfalso; omega)) (Int.le_antisymm (by omega) (by omega)) (c_R.up98 (c_R.up (c_R.up (c_R.up j2 I0 us14 rfl) Is14 us17 rfl) Is17 us31 rfl) Is31 us34 (by decide) (by decide)) (g_ti.e j3 ((h_upg us34 rfl).trans ((h_upg us31 rfl).trans ((h_upg us17 rfl).trans (h_upg us14 rfl))))) (g_SH.e j4 ((h_upg us34 rfl).trans ((h_upg us31 rfl).trans ((h_upg us17 rfl).trans (h_upg us14 rfl)))) ((h_upg us34 rfl).trans ((h_upg us31 rfl).trans ((h_upg us17 rfl).trans (h_upg us14 rfl)))) ((h_upg us34 rfl).trans ((h_upg us31 rfl).trans ((h_upg us17 rfl).trans (h_upg us14 rfl)))) ((h_upg us34 rfl).trans ((h_upg us31 rfl).trans ((h_upg us17 rfl).trans (h_upg us14 rfl)))) ((h_upg us34 rfl).trans ((h_upg us31 rfl).trans ((h_upg us17 rfl).trans (h_upg us14 rfl)))) ((h_upg us34 rfl).trans ((h_upg us31 rfl).trans ((h_upg us17 rfl).trans (h_upg us14 rfl))))) (Int.le_antisymm (by omega) (by omega))
      · clear hz11
        refine h_iconst (pc' := 11) (x := (Int32.ofInt 0)) rfl rfl rfl ?_
        refine h_zret rfl rfl ci_0 (by omega) (h_Kv ?_)
        refine h_zeq (tg := 39) (pc' := 26) rfl rfl rfl ci_0 (fun c36 => ?_) (fun c36 => absurd (Int.le_antisymm (by omega) (by omega)) c36)
        refine h_bipush (pc' := 41) (x := (Int32.ofInt (-3))) rfl rfl cb_m3 ?_
        refine h_iret rfl rfl (h_Kv ?_)
        clear hz2
        refine h_pop (pc' := 222) rfl rfl rfl ?_
        refine h_aload_n (pc' := 223) rfl rfl rfl ?_
        refine h_aload_n (pc' := 224) rfl rfl rfl ?_
        refine h_iload_n (pc' := 225) rfl rfl rfl ?_
        refine h_iconst (pc' := 226) (x := (Int32.ofInt 1)) rfl rfl rfl ?_
        refine h_iadd (pc' := 227) rfl rfl hy3 ci_1 rfl (by omega) (by omega) (fun z37 hz37 => ?_)
        refine h_iald (pc' := 228) (v := s0 0 (b3 + 1)) rfl rfl rfl hz37 (by omega) (by omega) rfl (fun z38 hz38 => ?_)
        have tz38 := h_rgv hz38
        clear hz37
        refine h_call (sp := false) (pc' := 231) (M := [(0, .ref 98), (1, .int z38)]) rfl rfl rfl rfl rfl rfl rfl rfl ?_
        refine h_iload_n (pc' := 1) rfl rfl rfl ?_
        refine h_i2l (pc' := 2) rfl rfl hz38 (fun z39 hz39 => ?_)
        refine h_lconst (pc' := 3) (x := (Int64.ofInt 0)) rfl rfl rfl ?_
        refine h_ldc2 (pc' := 6) (x := (Int64.ofInt 127)) rfl rfl rfl ?_
        refine h_calls (pc' := 9) (M := [(0, .long z39), (2, .long (Int64.ofInt 0)), (4, .long (Int64.ofInt 127))]) rfl rfl rfl rfl rfl rfl ?_
        refine h_lload_n (pc' := 1) rfl rfl rfl ?_
        refine h_lload_n (pc' := 2) rfl rfl rfl ?_
        refine h_lcmp (pc' := 3) rfl rfl hz39 cl_0 (fun z40 hz40 => ?_)
        refine h_zlt (tg := 17) (pc' := 6) rfl rfl rfl rfl (fun c41 => absurd c41 (by omega)) (fun c41 => ?_)
        replace c41 := (h_lcr hz40).2.1 c41
        clear hz40
        refine h_lload_n (pc' := 7) rfl rfl rfl ?_
        refine h_lload (pc' := 9) rfl rfl rfl ?_
        refine h_lcmp (pc' := 10) rfl rfl hz39 cl_127 (fun z42 hz42 => ?_)
        refine h_zgt (tg := 17) (pc' := 13) rfl rfl rfl rfl (fun c43 => absurd c43 (by omega)) (fun c43 => ?_)
        replace c43 := (h_lcr hz42).2.2.1 c43
        clear hz42
        refine h_iconst (pc' := 14) (x := (Int32.ofInt 1)) rfl rfl rfl ?_
        refine h_goto (pc' := 18) rfl rfl ?_
        refine h_zret rfl rfl ci_1 (by omega) (h_Kv ?_)
        clear hz39
        refine h_zne (tg := 14) (pc' := 12) rfl rfl rfl ci_1 (fun c44 => ?_) (fun c44 => absurd c44 (by omega))
        refine h_aload_n (pc' := 15) rfl rfl rfl ?_
        refine h_getI (pc' := 18) (v := s0 98 11) rfl rfl rfl rfl rfl rfl (fun z45 hz45 => ?_)
        have tz45 := tf_98_11 I0
        refine h_sipush (pc' := 21) (x := (Int32.ofInt 160)) rfl rfl cs_160 ?_
        refine h_cne (tg := 27) (pc' := 24) rfl rfl rfl hz45 ci_160 (fun c46 => absurd (Int.le_antisymm (by omega) (by omega)) c46) (fun c46 => ?_)
        clear hz45
        refine h_bipush (pc' := 26) (x := (Int32.ofInt (-3))) rfl rfl cb_m3 ?_
        refine h_iret rfl rfl (h_Kv ?_)
        clear hz38
        refine h_pop (pc' := 232) rfl rfl rfl ?_
        refine h_goto (pc' := 1441) rfl rfl ?_
        exact kk _ I0 (by first | exact d_tape.le j0 (Int.le_antisymm (by omega) (by omega)) (by omega) (fun j => rfl) (fun j => rfl) | (exfalso; omega)) (Int.le_antisymm (by omega) (by omega)) j2 (g_ti.e j3 rfl) (g_SH.e j4 rfl rfl rfl rfl rfl rfl) (Int.le_antisymm (by omega) (by omega))
    · refine h_iconst (pc' := 11) (x := (Int32.ofInt (-1))) rfl rfl rfl ?_
      refine h_iret rfl rfl (h_Kv ?_)
      clear hz2
      refine h_pop (pc' := 222) rfl rfl rfl ?_
      refine h_aload_n (pc' := 223) rfl rfl rfl ?_
      refine h_aload_n (pc' := 224) rfl rfl rfl ?_
      refine h_iload_n (pc' := 225) rfl rfl rfl ?_
      refine h_iconst (pc' := 226) (x := (Int32.ofInt 1)) rfl rfl rfl ?_
      refine h_iadd (pc' := 227) rfl rfl hy3 ci_1 rfl (by omega) (by omega) (fun z47 hz47 => ?_)
      refine h_iald (pc' := 228) (v := s0 0 (b3 + 1)) rfl rfl rfl hz47 (by omega) (by omega) rfl (fun z48 hz48 => ?_)
      have tz48 := h_rgv hz48
      clear hz47
      refine h_call (sp := false) (pc' := 231) (M := [(0, .ref 98), (1, .int z48)]) rfl rfl rfl rfl rfl rfl rfl rfl ?_
      refine h_iload_n (pc' := 1) rfl rfl rfl ?_
      refine h_i2l (pc' := 2) rfl rfl hz48 (fun z49 hz49 => ?_)
      refine h_lconst (pc' := 3) (x := (Int64.ofInt 0)) rfl rfl rfl ?_
      refine h_ldc2 (pc' := 6) (x := (Int64.ofInt 127)) rfl rfl rfl ?_
      refine h_calls (pc' := 9) (M := [(0, .long z49), (2, .long (Int64.ofInt 0)), (4, .long (Int64.ofInt 127))]) rfl rfl rfl rfl rfl rfl ?_
      refine h_lload_n (pc' := 1) rfl rfl rfl ?_
      refine h_lload_n (pc' := 2) rfl rfl rfl ?_
      refine h_lcmp (pc' := 3) rfl rfl hz49 cl_0 (fun z50 hz50 => ?_)
      refine h_zlt (tg := 17) (pc' := 6) rfl rfl rfl rfl (fun c51 => absurd c51 (by omega)) (fun c51 => ?_)
      replace c51 := (h_lcr hz50).2.1 c51
      clear hz50
      refine h_lload_n (pc' := 7) rfl rfl rfl ?_
      refine h_lload (pc' := 9) rfl rfl rfl ?_
      refine h_lcmp (pc' := 10) rfl rfl hz49 cl_127 (fun z52 hz52 => ?_)
      refine h_zgt (tg := 17) (pc' := 13) rfl rfl rfl rfl (fun c53 => ?_) (fun c53 => absurd c53 (by omega))
      replace c53 := (h_lcr hz52).2.2.2.1 c53
      clear hz52
      refine h_iconst (pc' := 18) (x := (Int32.ofInt 0)) rfl rfl rfl ?_
      refine h_zret rfl rfl ci_0 (by omega) (h_Kv ?_)
      clear hz49
      refine h_zne (tg := 14) (pc' := 12) rfl rfl rfl ci_0 (fun c54 => absurd (Int.le_antisymm (by omega) (by omega)) c54) (fun c54 => ?_)
      refine h_iconst (pc' := 13) (x := (Int32.ofInt (-1))) rfl rfl rfl ?_
      refine h_iret rfl rfl (h_Kv ?_)
      clear hz48
      refine h_pop (pc' := 232) rfl rfl rfl ?_
      refine h_goto (pc' := 1441) rfl rfl ?_
      exact kk _ I0 (by first | exact d_tape.le j0 (Int.le_antisymm (by omega) (by omega)) (by omega) (fun j => rfl) (fun j => rfl) | (exfalso; omega)) (Int.le_antisymm (by omega) (by omega)) j2 (g_ti.e j3 rfl) (g_SH.e j4 rfl rfl rfl rfl rfl rfl) (Int.le_antisymm (by omega) (by omega))
set_option maxHeartbeats 100000000 in
theorem g_case_235 {ns : Nat} (hns : ns ≤ 320) (s0 : h_S) (I0 : h_I s0) (j0 : d_tape s0 s0) (j1 : s0 64 4 = s0 98 16) (j2 : c_R true s0) (j3 : g_ti s0) (j4 : g_SH s0) (j5 : s0 90 2 = s0 98 29) (y3 : Int32) (b3 : Int) (hy3 : y3.toInt = b3) (hr : 0 ≤ b3 ∧ b3 + 5 ≤ ns) {Q : Option Value → h_S → Prop} (kk : ∀ τ, h_I τ → (d_tape τ τ) → (τ 64 4 = τ 98 16) → (c_R true τ) → (g_ti τ) → (g_SH τ) → (τ 90 2 = τ 98 29) → h_T g_P (g_Y ns) 225 1441 [(0, .ref 0), (1, .ref 9), (2, .ref 98), (3, .int y3)] [] τ Q) : h_T g_P (g_Y ns) 225 235 [(0, .ref 0), (1, .ref 9), (2, .ref 98), (3, .int y3)] [] s0 Q := by
  have F0_ : h_F (fun _ _ => true) s0 s0 := h_F.rf
  have j0_ := j0.2
  have i0 := tf_64_1 I0
  have i1 := tf_98_11 I0
  have i2 := tf_64_4 I0
  have i3 := tf_98_16 I0
  have i4 := tf_90_2 I0
  have i5 := tf_98_29 I0
  refine h_aload_n (pc' := 236) rfl rfl rfl ?_
  refine h_aload_n (pc' := 237) rfl rfl rfl ?_
  refine h_iload_n (pc' := 238) rfl rfl rfl ?_
  refine h_iconst (pc' := 239) (x := (Int32.ofInt 1)) rfl rfl rfl ?_
  refine h_iadd (pc' := 240) rfl rfl hy3 ci_1 rfl (by omega) (by omega) (fun z1 hz1 => ?_)
  refine h_iald (pc' := 241) (v := s0 0 (b3 + 1)) rfl rfl rfl hz1 (by omega) (by omega) rfl (fun z2 hz2 => ?_)
  have tz2 := h_rgv hz2
  clear hz1
  refine h_call (sp := false) (pc' := 244) (M := [(0, .ref 9), (1, .int z2)]) rfl rfl rfl rfl rfl rfl rfl rfl ?_
  refine v_endX _ I0 z2 _ hz2 (fun r3 br3 hr3 s4 Is4 Gs4 tr3 ps4_0 ps4_1 => h_Kv ?_)
  have Zs4 : ∀ i, s4 0 i = s0 0 i := fun i => (Gs4 0 i rfl).trans rfl
  have Fs4 : h_F (fun _ _ => true) s4 s0 := fun _ _ h => by cases h
  have es4_1 : s4 98 11 = s0 98 11 := (Gs4 98 11 rfl).trans rfl
  have es4_2 : s4 64 4 = s0 64 4 := (Gs4 64 4 rfl).trans rfl
  have es4_3 : s4 98 16 = s0 98 16 := (Gs4 98 16 rfl).trans rfl
  have es4_4 : s4 90 2 = s0 90 2 := (Gs4 90 2 rfl).trans rfl
  have es4_5 : s4 98 29 = s0 98 29 := (Gs4 98 29 rfl).trans rfl
  clear hz2
  refine h_pop (pc' := 245) rfl rfl rfl ?_
  clear hr3
  refine h_aload_n (pc' := 246) rfl rfl rfl ?_
  refine h_aload_n (pc' := 247) rfl rfl rfl ?_
  refine h_iload_n (pc' := 248) rfl rfl rfl ?_
  refine h_iconst (pc' := 249) (x := (Int32.ofInt 1)) rfl rfl rfl ?_
  refine h_iadd (pc' := 250) rfl rfl hy3 ci_1 rfl (by omega) (by omega) (fun z5 hz5 => ?_)
  refine h_iald (pc' := 251) (v := s0 0 (b3 + 1)) rfl rfl rfl hz5 (by omega) (by omega) (Zs4 _) (fun z6 hz6 => ?_)
  have tz6 := h_rgv hz6
  clear hz5
  refine h_call (sp := false) (pc' := 254) (M := [(0, .ref 98), (1, .int z6)]) rfl rfl rfl rfl rfl rfl rfl rfl ?_
  refine v_endM _ Is4 z6 _ hz6 (fun r7 br7 hr7 s8 Is8 Gs8 tr7 ps8_0 ps8_1 => h_Kv ?_)
  have Zs8 : ∀ i, s8 0 i = s0 0 i := fun i => (Gs8 0 i rfl).trans (Zs4 i)
  have Fs8 : h_F (fun _ _ => true) s8 s0 := fun _ _ h => by cases h
  have es8_0 : s8 64 1 = s4 64 1 := (Gs8 64 1 rfl).trans rfl
  have es8_2 : s8 64 4 = s0 64 4 := (Gs8 64 4 rfl).trans es4_2
  have es8_3 : s8 98 16 = s0 98 16 := (Gs8 98 16 rfl).trans es4_3
  have es8_4 : s8 90 2 = s0 90 2 := (Gs8 90 2 rfl).trans es4_4
  have es8_5 : s8 98 29 = s0 98 29 := (Gs8 98 29 rfl).trans es4_5
  clear hz6
  refine h_pop (pc' := 255) rfl rfl rfl ?_
  clear hr7
  refine h_goto (pc' := 1441) rfl rfl ?_
  exact kk _ Is8 (by first | exact d_tape.le j0 (Int.le_antisymm (by omega) (by omega)) (by omega) (fun j => (Gs8 65 j rfl).trans ((Gs4 65 j rfl))) (fun j => (Gs8 102 j rfl).trans ((Gs4 102 j rfl))) | (exfalso; omega)) (Int.le_antisymm (by omega) (by omega)) (c_R.fr (c_R.fr j2 I0 Gs4 rfl) Is4 Gs8 rfl) (g_ti.e j3 ((funext (fun j => Gs8 100 j rfl)).trans (funext (fun j => Gs4 100 j rfl)))) (g_SH.e j4 ((funext (fun j => Gs8 94 j rfl)).trans (funext (fun j => Gs4 94 j rfl))) ((funext (fun j => Gs8 95 j rfl)).trans (funext (fun j => Gs4 95 j rfl))) ((funext (fun j => Gs8 96 j rfl)).trans (funext (fun j => Gs4 96 j rfl))) ((funext (fun j => Gs8 111 j rfl)).trans (funext (fun j => Gs4 111 j rfl))) ((funext (fun j => Gs8 112 j rfl)).trans (funext (fun j => Gs4 112 j rfl))) ((funext (fun j => Gs8 113 j rfl)).trans (funext (fun j => Gs4 113 j rfl)))) (Int.le_antisymm (by omega) (by omega))
set_option maxHeartbeats 100000000 in
theorem g_case_258 {ns : Nat} (hns : ns ≤ 320) (s0 : h_S) (I0 : h_I s0) (j0 : d_tape s0 s0) (j1 : s0 64 4 = s0 98 16) (j2 : c_R true s0) (j3 : g_ti s0) (j4 : g_SH s0) (j5 : s0 90 2 = s0 98 29) (y3 : Int32) (b3 : Int) (hy3 : y3.toInt = b3) (hr : 0 ≤ b3 ∧ b3 + 5 ≤ ns) {Q : Option Value → h_S → Prop} (kk : ∀ τ, h_I τ → (d_tape τ τ) → (τ 64 4 = τ 98 16) → (c_R true τ) → (g_ti τ) → (g_SH τ) → (τ 90 2 = τ 98 29) → h_T g_P (g_Y ns) 225 1441 [(0, .ref 0), (1, .ref 9), (2, .ref 98), (3, .int y3)] [] τ Q) : h_T g_P (g_Y ns) 225 258 [(0, .ref 0), (1, .ref 9), (2, .ref 98), (3, .int y3)] [] s0 Q := by
  have F0_ : h_F (fun _ _ => true) s0 s0 := h_F.rf
  have j0_ := j0.2
  have i0 := tf_64_1 I0
  have i1 := tf_98_11 I0
  have i2 := tf_64_4 I0
  have i3 := tf_98_16 I0
  have i4 := tf_63_2 I0
  have i5 := tf_10_8 I0
  have i6 := tf_98_1 I0
  have i7 := tf_10_9 I0
  have i8 := tf_98_2 I0
  have i9 := tf_10_10 I0
  have i11 := tf_13_2 I0
  have i13 := tf_16_2 I0
  have i19 := tf_90_2 I0
  have i20 := tf_98_29 I0
  have j2_ := j2.sz
  have j2i := j2.2.2.1
  have y43 := ty_99_10 I0 43 (by omega)
  have y18 := ty_99_3 I0 18 (by omega)
  have y25 := ty_99_5 I0 25 (by omega)
  have y62_0 := ty_62 I0 0
  have y62_1 := ty_62 I0 1
  have y110_0 := ty_110 I0 0
  have y110_1 := ty_110 I0 1
  refine h_aload_n (pc' := 259) rfl rfl rfl ?_
  refine h_call (sp := false) (pc' := 262) (M := [(0, .ref 9)]) rfl rfl rfl rfl rfl rfl rfl rfl ?_
  refine v_textXM _ I0 j0 (by omega) (fun r1 br1 hr1 s2 Is2 Gs2 ps2_0 => h_Kv ?_)
  have Zs2 : ∀ i, s2 0 i = s0 0 i := fun i => (Gs2 0 i rfl).trans rfl
  have Fs2 : h_F (fun _ _ => true) s2 s0 := fun _ _ h => by cases h
  have es2_1 : s2 98 11 = s0 98 11 := (Gs2 98 11 rfl).trans rfl
  have es2_3 : s2 98 16 = s0 98 16 := (Gs2 98 16 rfl).trans rfl
  have es2_6 : s2 98 1 = s0 98 1 := (Gs2 98 1 rfl).trans rfl
  have es2_8 : s2 98 2 = s0 98 2 := (Gs2 98 2 rfl).trans rfl
  have es2_10 : s2 99 43 = s0 99 43 := (Gs2 99 43 rfl).trans rfl
  have es2_12 : s2 99 18 = s0 99 18 := (Gs2 99 18 rfl).trans rfl
  have es2_14 : s2 99 25 = s0 99 25 := (Gs2 99 25 rfl).trans rfl
  have es2_16 : s2 110 0 = s0 110 0 := (Gs2 110 0 rfl).trans rfl
  have es2_18 : s2 110 1 = s0 110 1 := (Gs2 110 1 rfl).trans rfl
  have es2_20 : s2 98 29 = s0 98 29 := (Gs2 98 29 rfl).trans rfl
  refine h_pop (pc' := 263) rfl rfl rfl ?_
  clear hr1
  refine h_aload_n (pc' := 264) rfl rfl rfl ?_
  refine h_call (sp := false) (pc' := 267) (M := [(0, .ref 98)]) rfl rfl rfl rfl rfl rfl rfl rfl ?_
  refine ps2_0 (fun r3 br3 hr3 s4 Is4 Gs4 ps4_0 ps4_1 ps4_2 ps4_3 ps4_4 ps4_5 ps4_6 ps4_7 => h_Kv ?_)
  have Zs4 : ∀ i, s4 0 i = s0 0 i := fun i => (Gs4 0 i rfl).trans (Zs2 i)
  have Fs4 : h_F (fun _ _ => true) s4 s0 := fun _ _ h => by cases h
  have es4_0 : s4 64 1 = s2 64 1 := (Gs4 64 1 rfl).trans rfl
  have es4_2 : s4 64 4 = s2 64 4 := (Gs4 64 4 rfl).trans rfl
  have es4_4 : s4 63 2 = s2 63 2 := (Gs4 63 2 rfl).trans rfl
  have es4_5 : s4 10 8 = s2 10 8 := (Gs4 10 8 rfl).trans rfl
  have es4_7 : s4 10 9 = s2 10 9 := (Gs4 10 9 rfl).trans rfl
  have es4_9 : s4 10 10 = s2 10 10 := (Gs4 10 10 rfl).trans rfl
  have es4_11 : s4 13 2 = s2 13 2 := (Gs4 13 2 rfl).trans rfl
  have es4_13 : s4 16 2 = s2 16 2 := (Gs4 16 2 rfl).trans rfl
  have es4_15 : s4 62 0 = s2 62 0 := (Gs4 62 0 rfl).trans rfl
  have es4_17 : s4 62 1 = s2 62 1 := (Gs4 62 1 rfl).trans rfl
  have es4_19 : s4 90 2 = s2 90 2 := (Gs4 90 2 rfl).trans rfl
  refine h_pop (pc' := 268) rfl rfl rfl ?_
  clear hr3
  refine h_goto (pc' := 1441) rfl rfl ?_
  exact kk _ Is4 (by first | exact d_tape.le j0 (Int.le_antisymm (by omega) (by omega)) (by omega) (fun j => (Gs4 65 j rfl).trans ((Gs2 65 j rfl))) (fun j => (Gs4 102 j rfl).trans ((Gs2 102 j rfl))) | (exfalso; omega)) (Int.le_antisymm (by omega) (by omega)) (by rcases ps4_5 with pc | pc; (exact c_R.stay j2 I0 (ps4_7 (by omega)) ((Gs4.mono (B := k_txm) rfl).tr (Gs2.mono (B := k_txm) rfl)) rfl (by omega) (by omega) (by omega) (by omega)); (exact c_R.told (ps4_6 (by omega)) (by omega) (by omega) (by omega) (by omega))) (g_ti.e j3 ((funext (fun j => Gs4 100 j rfl)).trans (funext (fun j => Gs2 100 j rfl)))) (g_SH.e j4 ((funext (fun j => Gs4 94 j rfl)).trans (funext (fun j => Gs2 94 j rfl))) ((funext (fun j => Gs4 95 j rfl)).trans (funext (fun j => Gs2 95 j rfl))) ((funext (fun j => Gs4 96 j rfl)).trans (funext (fun j => Gs2 96 j rfl))) ((funext (fun j => Gs4 111 j rfl)).trans (funext (fun j => Gs2 111 j rfl))) ((funext (fun j => Gs4 112 j rfl)).trans (funext (fun j => Gs2 112 j rfl))) ((funext (fun j => Gs4 113 j rfl)).trans (funext (fun j => Gs2 113 j rfl)))) (Int.le_antisymm (by omega) (by omega))
set_option maxHeartbeats 100000000 in
theorem g_case_271 {ns : Nat} (hns : ns ≤ 320) (s0 : h_S) (I0 : h_I s0) (j0 : d_tape s0 s0) (j1 : s0 64 4 = s0 98 16) (j2 : c_R true s0) (j3 : g_ti s0) (j4 : g_SH s0) (j5 : s0 90 2 = s0 98 29) (y3 : Int32) (b3 : Int) (hy3 : y3.toInt = b3) (hr : 0 ≤ b3 ∧ b3 + 5 ≤ ns) {Q : Option Value → h_S → Prop} (kk : ∀ τ, h_I τ → (d_tape τ τ) → (τ 64 4 = τ 98 16) → (c_R true τ) → (g_ti τ) → (g_SH τ) → (τ 90 2 = τ 98 29) → h_T g_P (g_Y ns) 225 1441 [(0, .ref 0), (1, .ref 9), (2, .ref 98), (3, .int y3)] [] τ Q) : h_T g_P (g_Y ns) 225 271 [(0, .ref 0), (1, .ref 9), (2, .ref 98), (3, .int y3)] [] s0 Q := by
  have F0_ : h_F (fun _ _ => true) s0 s0 := h_F.rf
  have j0_ := j0.2
  have i0 := tf_64_1 I0
  have i1 := tf_98_11 I0
  have i2 := tf_64_4 I0
  have i3 := tf_98_16 I0
  have i4 := tf_90_2 I0
  have i5 := tf_98_29 I0
  refine h_aload_n (pc' := 272) rfl rfl rfl ?_
  refine h_call (sp := false) (pc' := 275) (M := [(0, .ref 9)]) rfl rfl rfl rfl rfl rfl rfl rfl ?_
  refine w_85_9 _ I0  (fun r1 br1 hr1 s2 Is2 Gs2 tr1 => h_Kv ?_)
  have Zs2 : ∀ i, s2 0 i = s0 0 i := fun i => (Gs2 0 i rfl).trans rfl
  have Fs2 : h_F (fun _ _ => true) s2 s0 := fun _ _ h => by cases h
  have es2_0 : s2 64 1 = s0 64 1 := (Gs2 64 1 rfl).trans rfl
  have es2_1 : s2 98 11 = s0 98 11 := (Gs2 98 11 rfl).trans rfl
  have es2_2 : s2 64 4 = s0 64 4 := (Gs2 64 4 rfl).trans rfl
  have es2_3 : s2 98 16 = s0 98 16 := (Gs2 98 16 rfl).trans rfl
  have es2_4 : s2 90 2 = s0 90 2 := (Gs2 90 2 rfl).trans rfl
  have es2_5 : s2 98 29 = s0 98 29 := (Gs2 98 29 rfl).trans rfl
  refine h_pop (pc' := 276) rfl rfl rfl ?_
  clear hr1
  refine h_aload_n (pc' := 277) rfl rfl rfl ?_
  refine h_call (sp := false) (pc' := 280) (M := [(0, .ref 98)]) rfl rfl rfl rfl rfl rfl rfl rfl ?_
  refine w_156_98 _ Is2  (fun r3 br3 hr3 s4 Is4 Gs4 => h_Kv ?_)
  have Zs4 : ∀ i, s4 0 i = s0 0 i := fun i => (Gs4 0 i rfl).trans (Zs2 i)
  have Fs4 : h_F (fun _ _ => true) s4 s0 := fun _ _ h => by cases h
  have es4_0 : s4 64 1 = s0 64 1 := (Gs4 64 1 rfl).trans es2_0
  have es4_1 : s4 98 11 = s0 98 11 := (Gs4 98 11 rfl).trans es2_1
  have es4_2 : s4 64 4 = s0 64 4 := (Gs4 64 4 rfl).trans es2_2
  have es4_3 : s4 98 16 = s0 98 16 := (Gs4 98 16 rfl).trans es2_3
  have es4_4 : s4 90 2 = s0 90 2 := (Gs4 90 2 rfl).trans es2_4
  have es4_5 : s4 98 29 = s0 98 29 := (Gs4 98 29 rfl).trans es2_5
  clear es2_0 es2_1 es2_2 es2_3 es2_4 es2_5
  refine h_pop (pc' := 281) rfl rfl rfl ?_
  clear hr3
  refine h_goto (pc' := 1441) rfl rfl ?_
  exact kk _ Is4 (by first | exact d_tape.le j0 (Int.le_antisymm (by omega) (by omega)) (by omega) (fun j => (Gs4 65 j rfl).trans ((Gs2 65 j rfl))) (fun j => (Gs4 102 j rfl).trans ((Gs2 102 j rfl))) | (exfalso; omega)) (Int.le_antisymm (by omega) (by omega)) (c_R.fr (c_R.fr j2 I0 Gs2 rfl) Is2 Gs4 rfl) (g_ti.e j3 ((funext (fun j => Gs4 100 j rfl)).trans (funext (fun j => Gs2 100 j rfl)))) (g_SH.e j4 ((funext (fun j => Gs4 94 j rfl)).trans (funext (fun j => Gs2 94 j rfl))) ((funext (fun j => Gs4 95 j rfl)).trans (funext (fun j => Gs2 95 j rfl))) ((funext (fun j => Gs4 96 j rfl)).trans (funext (fun j => Gs2 96 j rfl))) ((funext (fun j => Gs4 111 j rfl)).trans (funext (fun j => Gs2 111 j rfl))) ((funext (fun j => Gs4 112 j rfl)).trans (funext (fun j => Gs2 112 j rfl))) ((funext (fun j => Gs4 113 j rfl)).trans (funext (fun j => Gs2 113 j rfl)))) (Int.le_antisymm (by omega) (by omega))
