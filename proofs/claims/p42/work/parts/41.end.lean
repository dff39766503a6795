/-! THE CLAIM OUT OF ONE WALK OF THE LAW'S BODY. Your part is whole_start (and what it stands on); all else here is the same for every law, but numbers. -/
def R_law : String := "KinGatesLaw"
def lw_P (b : Addr) (xs : List Int32) (args : Array Value) (s : State) : Prop := args = #[.ref b] ∧ s.IntsAt b xs ∧ xs.length ≤ 320 ∧ (Jvm.Cond.and given_1 narrow_1).before args s = true
def lw_Q (_ : Array Value) (s : State) (o : Outcome) (t : State) : Prop := o = .returned (some (.int 1)) ∧ Framed s o t [] 105 2414
def lw_Z (below : List Frame) (a : Array Value) (s : State) : State → Prop := fun t => ∃ o, t.status = .running ∧ Ended t below o ∧ lw_Q a s o t
/-- the law's own end, with 1 on the stack, nothing written that was there before, its room as the claim has it -/
theorem lw_ret {p : Program} {l : Launch} {e : Env} {s : State} {m : MethodId} {below : List Frame} {meth : Method} {c : Code} {b : Nat} (hx : p.tables.exec = Jvm.exec) (hb : c.code = code) (hr : meth.sig.returnType = ret) (hlocks : meth.locks = false) {pc : Nat} {H : Heap} {ls : Array Slot} (hdg : decode code pc = .ok (.ireturn, 1)) : W p l e room_1 s m #[Value.ref b] below meth c H [] 105 2414 (lw_Z below #[Value.ref b] s) (F0 m pc ls [.int 1]) := by
  intro T hT X
  obtain ⟨fs, hret, hrun, hended, hW, hframe⟩ := X.leave (v := some (.int 1)) (hlocks := hlocks) (fun h => by rw [hr] at h; cases h)
  have hmeth' : T.vm.method? m = some meth := X.method'
  refine ⟨T.setFrames fs, ?_, .returned (some (.int 1)), hrun, hended, rfl, ⟨_, rfl⟩, hW, hframe⟩
  jvm_step X.here [X.here.top, hx, hb, hdg, hmeth', hr, ret, narrow_b1]
  (try refine ⟨rfl, ?_⟩); (try refine ⟨rfl, ?_⟩)
  first | (intro acts; rw [hret _ acts rfl rfl rfl]) | rw [hret _ _ rfl rfl rfl]
  exact Steps.refl _
/-- what holds at the law's entry: the machine, the code, the tables' words (any of lw_tbl by 'hts w (by decide +kernel)'), the script of L ints xs at the cell b, what the Statement gives of the start (any of its parts by flat_of_before) -/
def lw_At (p : Program) (s : State) (m : MethodId) (meth : Method) (c : Code) (b L : Nat) (xs : Nat → Int32) : Prop :=
  p.tables.exec = Jvm.exec ∧ c.code = code ∧ meth.sig.returnType = ret ∧ c.maxLocals = 4 ∧ s.vm.findClass R_law = some m.cls ∧ (∀ w ∈ lw_tbl, w.before #[Value.ref b] s = true) ∧ va_X b L xs s s.heap ∧ b < s.heap.size ∧ meth.locks = false ∧ (Jvm.Cond.and given_1 narrow_1).before #[Value.ref b] s = true
-- ===== YOUR PART BEGINS =====
/-- YOUR PART: from the entry, for every script of at most 320 ints, the law comes to its end with true -/
theorem g_strs : (∀ i, i < 8 → Cond.exactly (.string "KinGates$Tape" (e_idx.getD i 0)) "java/lang/String" ∈ flatC (Jvm.Cond.and given_1 narrow_1)) ∧ (∀ i, i < 8 → Cond.eq (.field (.string "KinGates$Tape" (e_idx.getD i 0)) "java/lang/String" "coder" "B") (.int 0) ∈ flatC (Jvm.Cond.and given_1 narrow_1)) := by decide +kernel
theorem g_strs2 : (∀ i, i < 8 → Cond.arrayOf (.field (.string "KinGates$Tape" (e_idx.getD i 0)) "java/lang/String" "value" "[B") .byte ∈ flatC (Jvm.Cond.and given_1 narrow_1)) ∧ (∀ i, i < 8 → Cond.eq (.length (.field (.string "KinGates$Tape" (e_idx.getD i 0)) "java/lang/String" "value" "[B")) (.int (Int32.ofNat (e_lens.getD i 0))) ∈ flatC (Jvm.Cond.and given_1 narrow_1)) := by decide +kernel
theorem g_strs3 : ∀ i, i < 8 → ∀ j, j < e_lens.getD i 0 → Cond.eq (.elem (.field (.string "KinGates$Tape" (e_idx.getD i 0)) "java/lang/String" "value" "[B") (.int (Int32.ofNat j))) (.int ((e_byts.getD i []).getD j 0)) ∈ flatC (Jvm.Cond.and given_1 narrow_1) := by decide +kernel
theorem g_strs4 : ∀ i, i < 8 → ∀ j, j < 8 → i ≠ j → Cond.not (Cond.eq (.string "KinGates$Tape" (e_idx.getD i 0)) (.string "KinGates$Tape" (e_idx.getD j 0))) ∈ flatC (Jvm.Cond.and given_1 narrow_1) ∨ Cond.not (Cond.eq (.string "KinGates$Tape" (e_idx.getD j 0)) (.string "KinGates$Tape" (e_idx.getD i 0))) ∈ flatC (Jvm.Cond.and given_1 narrow_1) := by decide +kernel
theorem g_strs5 : ∀ i, i < 8 → Cond.stringRef "KinGates$Tape" (e_idx.getD i 0) (e_wds.getD i "") ∈ lw_tbl := by decide +kernel
theorem g_stat1 : Cond.laysStatic "java/lang/String" "COMPACT_STRINGS" "Z" ∈ lw_tbl ∧ Cond.initialized "java/lang/String" ∈ lw_tbl ∧ Cond.laysStatic "jdk/internal/util/Preconditions" "SIOOBE_FORMATTER" "Ljava/util/function/BiFunction;" ∈ lw_tbl ∧ Cond.initialized "jdk/internal/util/Preconditions" ∈ lw_tbl := by decide +kernel
theorem g_stat2 : Cond.eq (.static "java/lang/String" "COMPACT_STRINGS" "Z") (.int 1) ∈ flatC (Jvm.Cond.and given_1 narrow_1) ∧ Cond.isRef (.static "jdk/internal/util/Preconditions" "SIOOBE_FORMATTER" "Ljava/util/function/BiFunction;") ∈ flatC (Jvm.Cond.and given_1 narrow_1) := by decide +kernel
/-- the texts and the script lie in the heap as the small machine has them -/
theorem g_texts {s : State} {b L : Nat} {xs : Nat → Int32} (hts : ∀ w ∈ lw_tbl, w.before #[Value.ref b] s = true) (hX : va_X b L xs s s.heap) (hbl : b < s.heap.size) (hgv : (Jvm.Cond.and given_1 narrow_1).before #[Value.ref b] s = true) : ∃ ad : Nat → Nat, ad 0 = b ∧ e_AD ad 9 s.heap.size ∧ e_V s ad s.heap ∧ e_K s ad := by
  have hg := flat_of_before _ hgv
  obtain ⟨adK, adV, hS, hT⟩ := vk_Sof (args := #[Value.ref b]) (s := s) (N := 8) (tm := fun i => .string "KinGates$Tape" (e_idx.getD i 0)) (len := e_lens) (byt := e_byts) (A := fun x => s.heap.size ≤ x) (by decide) (fun i hi => hg _ (g_strs.1 i hi)) (fun i hi => hg _ (g_strs.2 i hi)) (fun i hi => hg _ (g_strs2.1 i hi)) (fun i hi => hg _ (g_strs2.2 i hi)) (fun i hi j hj => hg _ (g_strs3 i hi j hj)) (fun i j hi hj hij => (g_strs4 i hi j hj hij).elim (fun h => Or.inl (hg _ h)) (fun h => Or.inr (hg _ h))) (fun a ha => by omega)
  have hlt : ∀ i, i < 8 → adK i < s.heap.size := fun i hi => by
    obtain ⟨cell, h1, -⟩ := (hS.1 i hi).1
    exact (Array.getElem?_eq_some_iff.mp h1).1
  have hnb : ∀ i, i < 8 → ¬ b = adK i := fun i hi e => by
    obtain ⟨cf, k, fi, f, cell, -, -, h1, -, h2, -⟩ := (hS.1 i hi).2.2.1
    obtain ⟨scr, x1, x2, x3, x4, x5⟩ := hX
    rw [← e, x1] at h1
    have e1 : cell = scr := (Option.some.inj h1).symm
    rw [e1] at h2
    by_cases hj : f.slot < L
    · rw [x5 _ hj] at h2
      cases h2
    · have : scr.slots[f.slot]? = none := by rw [Array.getElem?_eq_none_iff]; omega
      rw [this] at h2
      cases h2
  have e0 : ∀ i, i < 8 → (fun i => if i = 0 then b else if i < 9 then adK (i - 1) else s.heap.size + (i - 9)) (1 + i) = adK i := fun i hi => by
    show (if 1 + i = 0 then b else if 1 + i < 9 then adK (1 + i - 1) else _) = _
    rw [if_neg (by omega), if_pos (by omega)]
    congr 1
    omega
  have hnar : ∀ q, e_sA (fun i => if i = 0 then b else if i < 9 then adK (i - 1) else s.heap.size + (i - 9)) q → s.heap.size ≤ q := by
    rintro q ⟨i, hi, rfl⟩
    show _ ≤ (if i = 0 then b else if i < 9 then adK (i - 1) else s.heap.size + (i - 9))
    rw [if_neg (by omega), if_neg (by omega)]
    omega
  refine ⟨fun i => if i = 0 then b else if i < 9 then adK (i - 1) else s.heap.size + (i - 9), rfl, ⟨fun i hi => ?_, fun i hi => ?_, fun i j hi hj e => ?_, rfl⟩, ?_, fun i hi => ?_⟩
  · show (if i = 0 then b else if i < 9 then adK (i - 1) else s.heap.size + (i - 9)) = _
    rw [if_neg (by omega), if_neg (by omega)]
  · show (if i = 0 then b else if i < 9 then adK (i - 1) else s.heap.size + (i - 9)) < _
    split
    · exact hbl
    · exact hlt _ (by omega)
  · have e : (if i = 0 then b else if i < 9 then adK (i - 1) else s.heap.size + (i - 9)) = (if j = 0 then b else if j < 9 then adK (j - 1) else s.heap.size + (j - 9)) := e
    rw [if_pos hi, if_pos hj] at e
    split at e
    · split at e
      · omega
      · exact absurd e (hnb _ (by omega))
    · split at e
      · exact absurd e.symm (hnb _ (by omega))
      · have := hS.2 (i - 1) (j - 1) (by omega) (by omega) e
        omega
  · have hA : ∀ a : Nat, a < s.heap.size → ¬ (fun x => s.heap.size ≤ x) a := fun a ha h => by
      have h : s.heap.size ≤ a := h
      omega
    have hZ := va_Zof (A := fun x => s.heap.size ≤ x) (hts _ g_stat1.1) (hts _ g_stat1.2.1) (va_eqt (hg _ g_stat2.1)) hA
    have hS2 : vk_S 8 e_lens e_byts (fun i => (fun i => if i = 0 then b else if i < 9 then adK (i - 1) else s.heap.size + (i - 9)) (1 + i)) adV (fun x => s.heap.size ≤ x) s s.heap := by
      refine ⟨fun i hi => ?_, fun i j hi hj e => ?_⟩
      · have := hS.1 i hi
        rw [← e0 i hi] at this
        exact this
      · have e := e
        rw [e0 i hi, e0 j hj] at e
        exact hS.2 i j hi hj e
    rcases va_Zqof (A := fun x => s.heap.size ≤ x) (hts _ g_stat1.2.2.1) (hts _ g_stat1.2.2.2) (hg _ g_stat2.2) hA with h | ⟨t, h⟩
    · exact ⟨adV, _, hS2.narrow hnar, hZ.narrow hnar, h.narrow hnar, rfl⟩
    · exact ⟨adV, _, hS2.narrow hnar, hZ.narrow hnar, h.narrow hnar, rfl⟩
  · rw [e0 i hi]
    exact vk_R.of (hts _ (g_strs5 i hi)) (hT i hi)
set_option maxHeartbeats 4000000 in
set_option maxRecDepth 100000 in
theorem whole_start {p : Program} {e : Env} {s : State} {m : MethodId} {below : List Frame} {meth : Method} {c : Code} (l : Launch) {b L : Nat} {xs : Nat → Int32} (hL : L ≤ 320) (C0 : lw_At p s m meth c b L xs) : W p l e room_1 s m #[Value.ref b] below meth c s.heap [] 0 0 (lw_Z below #[Value.ref b] s) (entryFrame m ([Value.ref b] : List Value).toArray 4) := by
  obtain ⟨hx, hb, hr, hml, hown, hts, hX, hbl, hlocks, hgv⟩ := id C0
  obtain ⟨c0, iS0, hKn0⟩ := u_known (C := RX0) (T := TX0) (N := 11) (n := 11) hts (fun w h => (List.mem_filter.mp (g_lay0 w h)).1) (hts (.instantiable RX0 11) (by decide +kernel))
  obtain ⟨c1, iS1, hKn1⟩ := u_known (C := RX1) (T := TX1) (N := 3) (n := 3) hts (fun w h => (List.mem_filter.mp (g_lay1 w h)).1) (hts (.instantiable RX1 3) (by decide +kernel))
  obtain ⟨c2, iS2, hKn2⟩ := u_known (C := RX2) (T := TX2) (N := 3) (n := 3) hts (fun w h => (List.mem_filter.mp (g_lay2 w h)).1) (hts (.instantiable RX2 3) (by decide +kernel))
  obtain ⟨c3, iS3, hKn3⟩ := u_known (C := RX3) (T := TX3) (N := 5) (n := 5) hts (fun w h => (List.mem_filter.mp (g_lay3 w h)).1) (hts (.instantiable RX3 5) (by decide +kernel))
  obtain ⟨c4, iS4, hKn4⟩ := u_known (C := RX4) (T := TX4) (N := 3) (n := 3) hts (fun w h => (List.mem_filter.mp (g_lay4 w h)).1) (hts (.instantiable RX4 3) (by decide +kernel))
  obtain ⟨c5, iS5, hKn5⟩ := u_known (C := RX5) (T := TX5) (N := 6) (n := 6) hts (fun w h => (List.mem_filter.mp (g_lay5 w h)).1) (hts (.instantiable RX5 6) (by decide +kernel))
  obtain ⟨c6, iS6, hKn6⟩ := u_known (C := RX6) (T := TX6) (N := 3) (n := 3) hts (fun w h => (List.mem_filter.mp (g_lay6 w h)).1) (hts (.instantiable RX6 3) (by decide +kernel))
  obtain ⟨c7, iS7, hKn7⟩ := u_known (C := RX7) (T := TX7) (N := 6) (n := 6) hts (fun w h => (List.mem_filter.mp (g_lay7 w h)).1) (hts (.instantiable RX7 6) (by decide +kernel))
  obtain ⟨c8, iS8, hKn8⟩ := u_known (C := RX8) (T := TX8) (N := 3) (n := 3) hts (fun w h => (List.mem_filter.mp (g_lay8 w h)).1) (hts (.instantiable RX8 3) (by decide +kernel))
  obtain ⟨c9, iS9, hKn9⟩ := u_known (C := RX9) (T := TX9) (N := 13) (n := 13) hts (fun w h => (List.mem_filter.mp (g_lay9 w h)).1) (hts (.instantiable RX9 13) (by decide +kernel))
  obtain ⟨c10, iS10, hKn10⟩ := u_known (C := RX10) (T := TX10) (N := 37) (n := 37) hts (fun w h => (List.mem_filter.mp (g_lay10 w h)).1) (hts (.instantiable RX10 37) (by decide +kernel))
  obtain ⟨dC, dI, hKc⟩ : ∃ (dC : Nat → ClassId) (dI : Nat → Nat → Nat), ∀ (k : Nat) (q : vw_C), g_C[k]? = some q → u_Kn s q.1 q.2.1 q.2.2 (dC k) (dI k) := by
    refine ⟨fun k => [c0, c1, c2, c3, c4, c5, c6, c7, c8, c9, c10].getD k c0, fun k => [iS0, iS1, iS2, iS3, iS4, iS5, iS6, iS7, iS8, iS9, iS10].getD k iS0, ?_⟩
    intro k q hq
    match k, hq with
    | 0, hq => cases hq; exact hKn0
    | 1, hq => cases hq; exact hKn1
    | 2, hq => cases hq; exact hKn2
    | 3, hq => cases hq; exact hKn3
    | 4, hq => cases hq; exact hKn4
    | 5, hq => cases hq; exact hKn5
    | 6, hq => cases hq; exact hKn6
    | 7, hq => cases hq; exact hKn7
    | 8, hq => cases hq; exact hKn8
    | 9, hq => cases hq; exact hKn9
    | 10, hq => cases hq; exact hKn10
    | k + 11, hq => simp [g_C] at hq
  have hK : va_K (dC, dI) g_C [] s := ⟨hKc, fun k q h => by simp at h⟩
  obtain ⟨ad, had0, hA, hV, hKs⟩ := g_texts hts hX hbl hgv
  obtain ⟨scr, x1, x2, x3, x4, x5⟩ := hX
  have hlen : ((List.range L).map xs).length = L := by simp
  obtain ⟨n, mem', hrun, hl1, hl2⟩ := g_law_run ((List.range L).map xs) (by rw [hlen]; exact hL)
  rw [hlen] at hl2
  have hP : e_P s (dC, dI) ad (.inl (false, (List.range L).map xs) :: x_t8) s.heap := by
    refine ⟨fun k c hk => ?_, hV⟩
    cases k with
    | zero =>
      cases hk
      rw [had0]
      refine ⟨scr, x1, x2, x3, ?_⟩
      apply Array.ext_getElem?
      intro j
      by_cases hj : j < L
      · rw [x5 j hj]
        simp [hj]
      · have h1 : scr.slots[j]? = none := by
          rw [Array.getElem?_eq_none_iff]
          omega
        have h2 : (((List.range L).map xs).map Value.int).toArray[j]? = none := by
          rw [Array.getElem?_eq_none_iff]
          simp
          omega
        exact h1.trans h2.symm
    | succ k =>
      rw [List.getElem?_cons_succ] at hk
      have hm := List.mem_of_getElem? hk
      simp only [List.mem_cons, List.not_mem_nil, or_false, or_self] at hm
      subst hm
      exact Or.inl rfl
  have X : e_X p s m #[Value.ref b] meth c g_P (dC, dI) g_C g_Ts g_Ns ad g_law := ⟨hx, hb, hml, hown, fun w hw => hts w (List.mem_filter.mp hw).1, fun w hw => by
    obtain ⟨y1, y2, y3, y4, rfl⟩ := g_gN w hw
    exact va_Nw.of rfl (hts _ (g_Ns_in _ hw)), hK, fun h => absurd h (by decide), hKs⟩
  have hl := lv_entry ([.ref b]) (n := 4) (Nat.le_of_ble_eq_true rfl)
  rw [lg_entry_eq]
  generalize (lg_sl ([.ref b]) ++ List.replicate (4 - (lg_sl ([.ref b])).length) Slot.unset).toArray = ls at hl ⊢
  have hl : lv_has ls 4 (e_lv ad [(0, .ref 0)]) := by
    show lv_has ls 4 [(0, .ref (ad 0))]
    rw [had0]
    exact hl
  refine e_sound (l := l) (D := (dC, dI)) g_G hA n g_law 0 [(0, .ref 0)] [] (.inl (false, (List.range L).map xs) :: x_t8) (some (.int 1)) mem' hrun (show 9 ≤ 9 from Nat.le_refl 9) p e room_1 s m #[Value.ref b] below meth c (lw_Z below #[Value.ref b] s) 9 L X (by decide) (by decide) (by show _ ≤ 105 + 9; omega) (by show _ ≤ 2414 + L; omega) ?_ s.heap [] 0 0 ls hP (by show _ + 9 = _ + 9; rfl) (fun x hx => by cases hx) hl (by rfl) (by simp [e_sl, e_sz])
  intro pc' i lv' st' hd hre H locs cells slots ls hP hz hlo hl hc hs
  have hre : e_ret (some .boolean) i st' = some (some (.int 1)) := hre
  have hst : i = .ireturn ∧ st' = [.int 1] := by
    unfold e_ret at hre
    split at hre <;> (try simp only [Bool.cond_eq_ite] at hre) <;> (try split at hre) <;> first | (cases hre; exact ⟨rfl, rfl⟩) | cases hre | (rename_i h; cases h)
  obtain ⟨rfl, rfl⟩ := hst
  refine va_forget (fun q hq => hlo q hq) ?_
  refine W.widen (k := 105) (n := 2414) (by omega) (by omega) ?_
  exact lw_ret hx hb hr hlocks hd
-- ===== YOUR PART ENDS =====
set_option maxHeartbeats 4000000 in
theorem lw_walk (l : Launch) (b : Addr) (xs : List Int32) : MetFree l x (headSpec (Jvm.Cond.code x code maxLocals ret :: tables_1) room_1) (lw_P b xs) (fun _ _ _ _ _ => True) lw_Q := by
  refine MetFree.of_bodyS (code := code) (maxLocals := maxLocals) (ret := ret) (by decide) ?_ ?_
  · intro args s m h hn
    obtain ⟨meth, c, h1, h2, h3, h4, h5, h6, -, -⟩ := Cond.code_spec hn (atoms_spec (ws := Jvm.Cond.code x code maxLocals ret :: tables_1) h _ List.mem_cons_self)
    exact ⟨meth, c, h1, h2, h3, h4, h5, h6⟩
  · intro p e s m args below meth c s₁ B hml0 hP _
    obtain ⟨rfl, hx, hbd, hgv⟩ := hP
    obtain ⟨scr, harrAt, hlist, hof, hsmall⟩ := hx
    obtain ⟨hcb, hkn, -, -⟩ := State.arrayAt?_spec harrAt
    have hown : s.vm.findClass R_law = some m.cls := findClass_of_methodNamed B.named
    have hts0 : ∀ c ∈ (Jvm.Cond.code x code maxLocals ret :: tables_1), c.before #[Value.ref b] s = true := atoms_spec (ws := Jvm.Cond.code x code maxLocals ret :: tables_1) B.pre
    have hts : ∀ w ∈ lw_tbl, w.before #[Value.ref b] s = true := k2_hts_sels lw_privs (fun w hw => hts0 w (List.mem_cons_of_mem _ hw)) lw_privs_ok
    have hml : c.maxLocals = 4 := B.maxLocals_eq (hts0 _ List.mem_cons_self)
    have X₀ : Stand p l e room_1 s m #[Value.ref b] below meth c s₁ [] 0 0 := Stand.of_body B
    have hh0 : s₁.heap = s.heap := by rw [B.state]; rfl
    have hsz : scr.slots.size = xs.length := by rw [← Array.length_toList, hlist, List.length_map]
    have hval : ∀ j : Nat, j < xs.length → scr.slots[j]? = some (.int (xs.getD j 0)) := fun j hj => by
      rw [← Array.getElem?_toList, hlist]
      simp [hj]
    have hbl : b < s.heap.size := (Array.getElem?_eq_some_iff.mp hcb).1
    have hX : va_X b xs.length (fun j => xs.getD j 0) s s.heap := ⟨scr, hcb, hof, hkn, hsz, hval⟩
    have K : W p l e room_1 s m #[Value.ref b] below meth c s₁.heap [] 0 0 (lw_Z below #[Value.ref b] s) (entryFrame m ([Value.ref b] : List Value).toArray 4) := by
      rw [hh0]
      exact whole_start l hbd ⟨B.exec, B.bytes, B.returns, hml, hown, hts, hX, hbl, B.notSynchronized, hgv⟩
    obtain ⟨t, a1, o, b1, b2, b3⟩ := K s₁ rfl X₀
    exact ⟨t, o, a1, b1, b2, b3⟩
theorem lw_pre_spec {args : Array Value} {s : State} (h : (Jvm.Cond.and given_1 narrow_1).before args s = true) (hr : rest_1_c.before args s = true) : ∃ (b : Addr) (xs : List Int32), lw_P b xs args s := by
  have hs := flat_of_before _ h
  have hq := flat_of_before _ hr
  have hc : (Cond.count 1).before args s = true := hs _ (by decide +kernel)
  have harr : (Cond.arrayOf (.arg 0) .int).before args s = true := hs _ (by decide +kernel)
  have hle : (Cond.le (.length (.arg 0)) (.int 320)).before args s = true := hs _ (by decide +kernel)
  have hlen : (Cond.isInt (.length (.arg 0))).before args s = true := hq _ (by decide +kernel)
  have hall : (Cond.all (.arg 0) (.isInt (.elem (.arg 0) (.index 0)))).before args s = true := hq _ (by decide +kernel)
  obtain ⟨b, xs, hb, hx⟩ := State.ints_of_pre rfl harr hlen hall
  have hsm : xs.length < 2 ^ 31 := hx.choose_spec.2.2.2
  have hev : (Term.length (.arg 0)).eval args s none [] s = some (.int xs.length.toInt32) := hx.length_eval hb
  have hv := Cond.le_ints hev (show (Term.int 320).eval args s none [] s = some (.int 320) from rfl)
  have hd : xs.length.toInt32 ≤ 320 := by
    simpa [Cond.before, Cond.holds, hv] using hle
  have hN : xs.length ≤ 320 := (Int32.ofNat_le_ofNat hsm (by decide)).mp (show Int32.ofNat xs.length ≤ Int32.ofNat 320 from hd)
  exact ⟨b, xs, Cond.one_arg hc (show args[0]? = some (.ref b) from hb), hx, hN, h⟩
theorem lw_comes (l : Launch) : Comes l x (Jvm.Cond.code x code maxLocals ret :: tables_1) room_1 (fun tb e args s => Calls_1 tb e args s ∧ rest_1 tb e args s ∧ Pre_1 tb e args s)
    (fun _ _ args s o t => lw_Q args s o t) := by
  intro p e ha hc hk s m args below hf hfit hheap happ hpre
  obtain ⟨b, xs, hP⟩ := lw_pre_spec hpre.2.2 hpre.2.1
  obtain ⟨k, o, h1, h2, h3, hQ⟩ := lw_walk l b xs p e ha hc hk s m args below hf ((Spec.applies_iff_loose hf).mp happ).1 hP trivial
  exact ⟨k, o, h1, h2, h3, hQ⟩
theorem lw_frame {s t : State} {o : Outcome} {args : Array Value} (h : Framed s o t [] 105 2414) :
    Framed s o t (fieldLocs frame_1_writes args s ++ arrayLocs frame_1_arrays args s ++ staticLocs frame_1_statics s) 105 2414 := h
theorem lw_limb (L : Cond) (hL : ∀ (args : Array Value) (s t : State), L.after args s (.returned (some (.int 1))) t = true) :
    ArmFor flags0 classFile x code maxLocals ret World_1 tables_1 room_1 Calls_1 rest_1 Pre_1
      (fun tb e a s o t => postC L tb e a s o t ∧ Framed s o t (fieldLocs frame_1_writes a s ++ arrayLocs frame_1_arrays a s ++ staticLocs frame_1_statics s) 105 2414) := by
  intro l _ _ _ p e ha hc hk s m args below hf hfit hheap happ hpre
  obtain ⟨k, o, h1, h2, h3, rfl, hF⟩ := lw_comes l p e ha hc hk s m args below hf hfit hheap happ hpre
  exact ⟨k, _, h1, h2, h3, hL args s _, lw_frame hF⟩
theorem i_vc : Claimed_1_1 ∧ Claimed_1_2 := ⟨lw_limb limb_1_1 (fun args s t => by simp [limb_1_1, Cond.after, Cond.holds, Cond.value]), lw_limb limb_1_2 (fun args s t => Cond.after_iff.mpr (by
  first | (rw [show limb_1_2 = Cond.eq .result (.int 1) from rfl, Cond.eq_ints (x := 1) (y := 1) rfl rfl]; simp; done) | (simp [limb_1_2, Cond.value, Term.eval]; done)))⟩
