/-! ONE STEP, WHATEVER THE INSTRUCTION -/
theorem e_ln {a n : Nat} (h : (a == n || n == 0) = true) (hn : (n == 0) = false) : a = n := by
  rw [hn, Bool.or_false] at h
  simpa using h
section ESS
variable {p : Program} {l : Launch} {e : Env} {R : Room} {s : State} {m : MethodId} {args : Array Value} {below : List Frame} {meth : Method} {c : Code} {Q : State → Prop}
variable {P : e_Pg} {D : va_G} {cl : List vw_C} {Ts Ns : List Cond} {ad : Nat → Nat} {base n0 z0 k : Nat}
theorem e_step_sound (G : e_GD P cl Ts Ns) (hA : e_AD ad (e_ro P) base) (X : e_X p s m args meth c P D cl Ts Ns ad k) {i : Instr} {pc len : Nat} {lv : List (Nat × Value)} {st : List Value} {mem : List e_C} {F : e_F} (hcode : e_code P k pc = some (i, len)) (hlen : (len == e_len i || e_len i == 0) = true) (h : e_step P k i pc lv st mem = some F)
    (hRc : F.2.2.2.length ≤ R.cells + n0) (hRs : e_sl F.2.2.2 ≤ R.slots + z0) (hmem : e_ro P ≤ mem.length)
    (kk : e_W p l e R s m args below meth c Q P D ad base n0 z0 k F.1 F.2.1 F.2.2.1 F.2.2.2) : e_W p l e R s m args below meth c Q P D ad base n0 z0 k pc lv st mem := by
  have hd := G.1 k pc _ hcode
  have hx := X.1
  have hb := X.2.1
  cases i with
  | aload n =>
    cases e_ln hlen rfl
    exact e_s_aload X h (fun H locs cells slots ls x hg w => lv_aload hx hb hd hg w) kk
  | aload_n n =>
    cases e_ln hlen rfl
    exact e_s_aload X h (fun H locs cells slots ls x hg w => lv_aload_n hx hb hd rfl hg w) kk
  | iload n =>
    cases e_ln hlen rfl
    exact e_s_iload X h (fun H locs cells slots ls x hg w => lv_iload hx hb hd hg w) kk
  | iload_n n =>
    cases e_ln hlen rfl
    exact e_s_iload X h (fun H locs cells slots ls x hg w => lv_iload_n hx hb hd rfl hg w) kk
  | lload n =>
    cases e_ln hlen rfl
    exact e_s_lload X h (fun H locs cells slots ls x hg w => lv_lload hx hb hd hg w) kk
  | lload_n n =>
    cases e_ln hlen rfl
    exact e_s_lload X h (fun H locs cells slots ls x hg w => lv_lload_n hx hb hd rfl hg w) kk
  | astore n =>
    cases e_ln hlen rfl
    exact e_s_astore X h (fun H locs cells slots ls x lv0 lv2 rest hl hn he w => lv_astore hx hb hd hl hn he w) kk
  | astore_n n =>
    cases e_ln hlen rfl
    exact e_s_astore X h (fun H locs cells slots ls x lv0 lv2 rest hl hn he w => lv_astore_n hx hb hd rfl hl hn he w) kk
  | istore n =>
    cases e_ln hlen rfl
    exact e_s_istore X h (fun H locs cells slots ls x lv0 lv2 rest hl hn he w => lv_istore hx hb hd hl hn he w) kk
  | istore_n n =>
    cases e_ln hlen rfl
    exact e_s_istore X h (fun H locs cells slots ls x lv0 lv2 rest hl hn he w => lv_istore_n hx hb hd rfl hl hn he w) kk
  | lstore n =>
    cases e_ln hlen rfl
    exact e_s_lstore X h (fun H locs cells slots ls x lv0 lv2 rest hl hn he w => lv_lstore hx hb hd hl hn he w) kk
  | lstore_n n =>
    cases e_ln hlen rfl
    exact e_s_lstore X h (fun H locs cells slots ls x lv0 lv2 rest hl hn he w => lv_lstore_n hx hb hd rfl hl hn he w) kk
  | arraylength  =>
    cases e_ln hlen rfl
    exact e_s_alen G X hd h kk
  | baload  =>
    cases e_ln hlen rfl
    exact e_s_ald (z := true) X hd h kk
  | iaload  =>
    cases e_ln hlen rfl
    exact e_s_ald (z := false) X hd h kk
  | bastore  =>
    cases e_ln hlen rfl
    exact e_s_ast (z := true) hA X hd h kk
  | iastore  =>
    cases e_ln hlen rfl
    exact e_s_ast (z := false) hA X hd h kk
  | bipush n =>
    cases e_ln hlen rfl
    unfold e_step at h
    cases h
    exact fun H locs cells slots ls hP hz hlo hl hc hs => lv_bipush hx hb hd rfl (kk H locs cells slots ls hP hz hlo hl hc hs)
  | iconst n =>
    cases e_ln hlen rfl
    unfold e_step at h
    cases h
    exact fun H locs cells slots ls hP hz hlo hl hc hs => lv_iconst hx hb hd rfl (kk H locs cells slots ls hP hz hlo hl hc hs)
  | sipush n =>
    cases e_ln hlen rfl
    unfold e_step at h
    cases h
    exact fun H locs cells slots ls hP hz hlo hl hc hs => lv_sipush hx hb hd rfl (kk H locs cells slots ls hP hz hlo hl hc hs)
  | lconst n =>
    cases e_ln hlen rfl
    unfold e_step at h
    cases h
    exact fun H locs cells slots ls hP hz hlo hl hc hs => lv_lconst hx hb hd rfl (kk H locs cells slots ls hP hz hlo hl hc hs)
  | dup  =>
    cases e_ln hlen rfl
    unfold e_step e_dup at h
    simp only [Bool.cond_eq_ite] at h
    split at h
    · next v r =>
      split at h
      · next hv =>
        cases h
        exact fun H locs cells slots ls hP hz hlo hl hc hs => lv_dup hx hb hd (by rw [e_cv_cat]; simpa using hv) (kk H locs cells slots ls hP hz hlo hl hc hs)
      · cases h
    · cases h
  | pop  =>
    cases e_ln hlen rfl
    unfold e_step e_pop at h
    simp only [Bool.cond_eq_ite] at h
    split at h
    · next v r =>
      split at h
      · next hv =>
        cases h
        exact fun H locs cells slots ls hP hz hlo hl hc hs => lv_pop hx hb hd (by rw [e_cv_cat]; simpa using hv) (kk H locs cells slots ls hP hz hlo hl hc hs)
      · cases h
    · cases h
  | pop2  =>
    cases e_ln hlen rfl
    unfold e_step e_pop2 at h
    simp only [Bool.cond_eq_ite] at h
    split at h
    · next v r =>
      split at h
      · next hv =>
        cases h
        exact fun H locs cells slots ls hP hz hlo hl hc hs => lv_pop2_2 hx hb hd (by rw [e_cv_cat]; simpa using hv) (kk H locs cells slots ls hP hz hlo hl hc hs)
      · cases h
    · cases h
  | dup2  =>
    cases e_ln hlen rfl
    unfold e_step e_dup2 at h
    simp only [Bool.cond_eq_ite] at h
    split at h
    · next v w r =>
      split at h
      · next hv =>
        simp only [Bool.and_eq_true, beq_iff_eq] at hv
        cases h
        exact fun H locs cells slots ls hP hz hlo hl hc hs => lv_dup2_11 hx hb hd (by rw [e_cv_cat]; exact hv.1) (by rw [e_cv_cat]; exact hv.2) (kk H locs cells slots ls hP hz hlo hl hc hs)
      · cases h
    · cases h
  | getfield n =>
    cases e_ln hlen rfl
    exact e_s_getf G X hd h kk
  | putfield n =>
    cases e_ln hlen rfl
    exact e_s_putf G hA X hd h kk
  | new n =>
    cases e_ln hlen rfl
    exact e_s_newo G hA X hd h hRc hRs hmem kk
  | newarray t =>
    cases e_ln hlen rfl
    cases t with
    | int => exact e_s_newa (z := false) G hA X hd h hRc hRs hmem kk
    | boolean => exact e_s_newa (z := true) G hA X hd h hRc hRs hmem kk
    | _ => exact absurd (show (none : Option e_F) = some F from h) (by simp)
  | goto o =>
    cases e_ln hlen rfl
    obtain ⟨t, e1, rfl⟩ := e_s_jmp h
    exact fun H locs cells slots ls hP hz hlo hl hc hs => lv_goto hx hb hd e1 (kk H locs cells slots ls hP hz hlo hl hc hs)
  | i2b  =>
    cases e_ln hlen rfl
    exact e_s_i1 h (fun H locs cells slots ls x rest w => lv_i2b hx hb hd rfl w) kk
  | i2s  =>
    cases e_ln hlen rfl
    exact e_s_i1 h (fun H locs cells slots ls x rest w => lv_i2s hx hb hd rfl w) kk
  | i2l  =>
    cases e_ln hlen rfl
    unfold e_step e_i2l at h
    dsimp only at h
    split at h
    · cases h
      exact fun H locs cells slots ls hP hz hlo hl hc hs => lv_i2l hx hb hd rfl (kk H locs cells slots ls hP hz hlo hl hc hs)
    · cases h
  | iadd  =>
    cases e_ln hlen rfl
    exact e_s_i2 h (fun H locs cells slots ls x y rest w => lv_iadd hx hb hd w) kk
  | isub  =>
    cases e_ln hlen rfl
    exact e_s_i2 h (fun H locs cells slots ls x y rest w => lv_isub hx hb hd w) kk
  | imul  =>
    cases e_ln hlen rfl
    exact e_s_i2 h (fun H locs cells slots ls x y rest w => lv_imul hx hb hd w) kk
  | iand  =>
    cases e_ln hlen rfl
    exact e_s_i2 h (fun H locs cells slots ls x y rest w => lv_iand hx hb hd w) kk
  | ior  =>
    cases e_ln hlen rfl
    exact e_s_i2 h (fun H locs cells slots ls x y rest w => lv_ior hx hb hd w) kk
  | ixor  =>
    cases e_ln hlen rfl
    exact e_s_i2 h (fun H locs cells slots ls x y rest w => lv_ixor hx hb hd w) kk
  | ishl  =>
    cases e_ln hlen rfl
    exact e_s_i2 h (fun H locs cells slots ls x y rest w => lv_ishl hx hb hd w) kk
  | ishr  =>
    cases e_ln hlen rfl
    exact e_s_i2 h (fun H locs cells slots ls x y rest w => lv_ishr hx hb hd w) kk
  | iushr  =>
    cases e_ln hlen rfl
    exact e_s_i2 h (fun H locs cells slots ls x y rest w => lv_iushr hx hb hd rfl w) kk
  | idiv  =>
    cases e_ln hlen rfl
    exact e_s_i2z h (fun H locs cells slots ls x y rest hy w => lv_idiv hx hb hd hy w) kk
  | irem  =>
    cases e_ln hlen rfl
    exact e_s_i2z h (fun H locs cells slots ls x y rest hy w => lv_irem hx hb hd hy w) kk
  | ladd  =>
    cases e_ln hlen rfl
    exact e_s_l2 h (fun H locs cells slots ls x y rest w => lv_ladd hx hb hd w) kk
  | lmul  =>
    cases e_ln hlen rfl
    exact e_s_l2 h (fun H locs cells slots ls x y rest w => lv_lmul hx hb hd w) kk
  | ldiv  =>
    cases e_ln hlen rfl
    exact e_s_l2z h (fun H locs cells slots ls x y rest hy w => lv_ldiv hx hb hd hy w) kk
  | lrem  =>
    cases e_ln hlen rfl
    exact e_s_l2z h (fun H locs cells slots ls x y rest hy w => lv_lrem hx hb hd hy w) kk
  | lcmp  =>
    cases e_ln hlen rfl
    unfold e_step e_lcmp at h
    dsimp only at h
    split at h
    · cases h
      exact fun H locs cells slots ls hP hz hlo hl hc hs => W.lcmp hx hb hd (kk H locs cells slots ls hP hz hlo hl hc hs)
    · cases h
  | if_icmp cd o =>
    cases e_ln hlen rfl
    unfold e_step at h
    dsimp only at h
    split at h
    · exact e_s_icmp X hd h kk
    · cases h
  | ifCond cd o =>
    cases e_ln hlen rfl
    unfold e_step at h
    dsimp only at h
    split at h
    · exact e_s_if X hd h kk
    · cases h
  | iinc n d =>
    cases e_ln hlen rfl
    unfold e_step e_iinc at h
    simp only [Bool.cond_eq_ite] at h
    split at h
    · next x hg =>
      split at h
      · next hn =>
        cases h
        intro H locs cells slots ls hP hz hlo hl hc hs
        obtain ⟨j, hj⟩ := List.getElem?_of_mem (show (n, Value.int x) ∈ e_lv ad lv from List.mem_map.mpr ⟨(n, .int x), e_get_mem hg, rfl⟩)
        exact lv_iinc hx hb hd hl hj rfl (by simpa using hn) (e_lv_put1 ad lv n (.int (x + Int32.ofInt d))) (fun ls hl => kk H locs cells slots ls hP hz hlo hl hc hs)
      · cases h
    · cases h
  | ldc n =>
    cases e_ln hlen rfl
    unfold e_step e_ldi at h
    dsimp only at h
    split at h
    · next v hv =>
      cases h
      rcases G.2.2.2.2.1 k n _ hv with ⟨x, ex, hw⟩ | ⟨x, ex, hw⟩ | ⟨j, hj, ex, -⟩
      · cases ex
        exact fun H locs cells slots ls hP hz hlo hl hc hs => lv_ldc hx hb X.2.2.2.1 (X.2.2.2.2.1 _ hw) hd (kk H locs cells slots ls hP hz hlo hl hc hs)
      · cases ex
      · cases ex
    · next q hv =>
      cases h
      rcases G.2.2.2.2.1 k n _ hv with ⟨x, ex, hw⟩ | ⟨x, ex, hw⟩ | ⟨j, hj, ex, h1, h2⟩
      · cases ex
      · cases ex
      · cases ex
        intro H locs cells slots ls hP hz hlo hl hc hs
        have h3 := X.2.2.2.2.2.2.2.2 j hj
        have h4 := X.2.2.2.1
        rw [h1] at h4
        rw [← h2] at h3
        exact va_ldcS hx hb h4 h3 hd (kk H locs cells slots ls hP hz hlo hl hc hs)
    · cases h
  | ldc_w n =>
    cases e_ln hlen rfl
    unfold e_step e_ldw at h
    dsimp only at h
    split at h
    · next v hv =>
      cases h
      rcases G.2.2.2.2.1 k n _ hv with ⟨x, ex, hw⟩ | ⟨x, ex, hw⟩ | ⟨j, hj, ex, -⟩
      · cases ex
        exact fun H locs cells slots ls hP hz hlo hl hc hs => lv_ldcw hx hb X.2.2.2.1 (X.2.2.2.2.1 _ hw) hd (kk H locs cells slots ls hP hz hlo hl hc hs)
      · cases ex
      · cases ex
    · cases h
  | ldc2_w n =>
    cases e_ln hlen rfl
    unfold e_step e_ldl at h
    dsimp only at h
    split at h
    · next v hv =>
      cases h
      rcases G.2.2.2.2.1 k n _ hv with ⟨x, ex, hw⟩ | ⟨x, ex, hw⟩ | ⟨j, hj, ex, -⟩
      · cases ex
      · cases ex
        exact fun H locs cells slots ls hP hz hlo hl hc hs => lv_ldc2 hx hb X.2.2.2.1 (X.2.2.2.2.1 _ hw) hd (kk H locs cells slots ls hP hz hlo hl hc hs)
      · cases ex
    · cases h
  | tableswitch d lo hi offs => exact e_s_tsw X hd h kk
  | _ => exact absurd (show (none : Option e_F) = some F from h) (by simp)
end ESS
