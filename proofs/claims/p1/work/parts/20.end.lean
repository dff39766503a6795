/-! THE CLAIM OUT OF ONE WALK OF THE LAW'S BODY. Your part is whole_start (and what it stands on); all else here is the same for every law, but numbers. -/
def R_law : String := "KinGatesLaw"
def lw_P (b : Addr) (xs : List Int32) (args : Array Value) (s : State) : Prop := args = #[.ref b] ∧ s.IntsAt b xs ∧ xs.length ≤ 5 ∧ (Jvm.Cond.and given_1 narrow_1).before args s = true
def lw_Q (_ : Array Value) (s : State) (o : Outcome) (t : State) : Prop := o = .returned (some (.int 1)) ∧ Framed s o t [] 105 2414
def lw_Z (below : List Frame) (a : Array Value) (s : State) : State → Prop := fun t => ∃ o, t.status = .running ∧ Ended t below o ∧ lw_Q a s o t
/-- the law's own end, with 1 on the stack, nothing written that was there before, its room as the claim has it -/
theorem lw_ret {p : Program} {l : Launch} {e : Env} {s : State} {m : MethodId} {below : List Frame} {meth : Method} {c : Code} {b : Nat} (hx : p.tables.exec = Jvm.exec) (hb : c.code = code) (hr : meth.sig.returnType = ret) (hlocks : meth.locks = false) {pc : Nat} {H : Heap} {ls : Array Slot} (hdg : decode code pc = .ok (.ireturn, 1)) : W p l e room_1 s m #[Value.ref b] below meth c H [] 105 2414 (lw_Z below #[Value.ref b] s) (F0 m pc ls [.int 1]) := by
  intro T hT X
  obtain ⟨fs, hret, hrun, hended, hW, hframe⟩ := X.leave (v := some (.int 1)) (hlocks := hlocks) (fun h => by rw [hr] at h; cases h)
  have hmeth' : T.vm.method? m = some meth := X.method'
  refine ⟨T.setFrames fs, ?_, .returned (some (.int 1)), hrun, hended, rfl, ⟨_, rfl⟩, hW, hframe⟩
  jvm_step X.here [X.here.top, hx, hb, hdg, hmeth', hr, ret, narrow_b1]
  (try refine ⟨rfl, ?_⟩); (try refine ⟨rfl, ?_⟩)
  first | (intro acts; rw [hret _ acts rfl rfl rfl]) | rw [hret _ _ rfl rfl rfl]
  exact Steps.refl _
/-- what holds at the law's entry: the machine, the code, the tables' words (any of lw_tbl by 'hts w (by decide +kernel)'), the script of L ints xs at the cell b, what the Statement gives of the start (any of its parts by flat_of_before) -/
def lw_At (p : Program) (s : State) (m : MethodId) (meth : Method) (c : Code) (b L : Nat) (xs : Nat → Int32) : Prop :=
  p.tables.exec = Jvm.exec ∧ c.code = code ∧ meth.sig.returnType = ret ∧ c.maxLocals = 4 ∧ s.vm.findClass R_law = some m.cls ∧ (∀ w ∈ lw_tbl, w.before #[Value.ref b] s = true) ∧ va_X b L xs s s.heap ∧ b < s.heap.size ∧ meth.locks = false ∧ (Jvm.Cond.and given_1 narrow_1).before #[Value.ref b] s = true
-- ===== YOUR PART BEGINS =====
/-- YOUR PART: from the entry, for every script of at most 5 ints, the law comes to its end with true -/
theorem g_rel (l : List Int32) (hl : l.length ≤ 5) : a_rS (fun i => l.getD i 0) (g_S l.length) ([.inl (false, l)], (g_law, 0, [(0, .ref 0)], []), []) := by
  refine ⟨?_, ⟨⟨rfl, ?_⟩, trivial⟩, ⟨rfl, rfl, ⟨⟨rfl, rfl⟩, trivial⟩, trivial⟩, trivial⟩
  · intro id p hp
    have hp2 : p = g_any := by
      have h0 : ∀ q ∈ g_E, q = g_any := by
        intro q hq
        simp [g_S, g_E] at hq
        exact hq
      exact h0 p (List.mem_of_getElem? hp)
    subst hp2
    exact a_rng _
  · have key : ∀ (n : Nat) (k : List Int32) (f : Nat → Int32), k.length = n → (∀ i, i < n → f i = k.getD i 0) → a_l2 (a_rx f) ((List.range n).map (fun i => (Sum.inr (0, i, 0, 0) : a_V))) k := by
      intro n
      induction n with
      | zero =>
        intro k f hk _
        rw [List.length_eq_zero_iff.mp hk]
        exact trivial
      | succ n ih =>
        intro k f hk hf
        have hk2 : k = k.take n ++ [k.getD n 0] := by
          apply List.ext_getElem
          · simp; omega
          · intro i h1 h2
            by_cases hi : i < n
            · rw [List.getElem_append_left (by simp; omega), List.getElem_take]
            · have : i = n := by omega
              subst this
              rw [List.getElem_append_right (by rw [List.length_take]; omega)]
              simp [List.getD_eq_getElem?_getD, h1]
        rw [List.range_succ, List.map_append, hk2]
        refine a_l2_app (ih (k.take n) f (by simp; omega) (fun i hi => ?_)) ⟨?_, trivial⟩
        · rw [hf i (by omega), List.getD_eq_getElem?_getD, List.getD_eq_getElem?_getD, List.getElem?_take_of_lt hi]
        · show Value.int (k.getD n 0) = Value.int (f n)
          rw [hf n (by omega)]
    exact key l.length l _ rfl (fun i _ => rfl)
theorem g_law_run (l : List Int32) (hl : l.length ≤ 5) : ∃ (n : Nat) (mem' : List e_C), e_run g_P n g_law 0 [(0, .ref 0)] [] [.inl (false, l)] = some (some (.int 1), mem') ∧ mem'.length ≤ 106 ∧ e_sl mem' ≤ 2414 + l.length := by
  have go : ∀ ls, a_good g_P 106 ls (fun i => l.getD i 0) (g_S l.length) → ∃ (n : Nat) (mem' : List e_C), e_run g_P n g_law 0 [(0, .ref 0)] [] [.inl (false, l)] = some (some (.int 1), mem') ∧ mem'.length ≤ 106 ∧ e_sl mem' ≤ ls := by
    intro ls hg
    obtain ⟨y, ⟨n, hn⟩, h1, h2, h3⟩ := hg _ (g_rel l hl)
    obtain ⟨r, mem'⟩ := y
    dsimp only at h1 h2 h3
    subst h1
    exact ⟨n, mem', hn, h2, h3⟩
  match h : l.length, hl with
  | 0, _ => rw [h] at go; exact go _ (a_good_run _ g_sh0)
  | 1, _ => rw [h] at go; exact go _ (a_good_run _ g_sh1)
  | 2, _ => rw [h] at go; exact go _ (a_good_run _ g_sh2)
  | 3, _ => rw [h] at go; exact go _ (a_good_run _ g_sh3)
  | 4, _ => rw [h] at go; exact go _ (a_good_run _ g_sh4)
  | 5, _ => rw [h] at go; exact go _ (g_all5 _)
set_option maxHeartbeats 4000000 in
set_option maxRecDepth 100000 in
theorem whole_start {p : Program} {e : Env} {s : State} {m : MethodId} {below : List Frame} {meth : Method} {c : Code} (l : Launch) {b L : Nat} {xs : Nat → Int32} (hL : L ≤ 5) (C0 : lw_At p s m meth c b L xs) : W p l e room_1 s m #[Value.ref b] below meth c s.heap [] 0 0 (lw_Z below #[Value.ref b] s) (entryFrame m ([Value.ref b] : List Value).toArray 4) := by
  obtain ⟨hx, hb, hr, hml, hown, hts, hX, hbl, hlocks, hgv⟩ := id C0
  obtain ⟨c0, iS0, hKn0⟩ := u_known (C := RX0) (T := TX0) (N := 11) (n := 11) hts (fun w h => (List.mem_filter.mp (g_lay0 w h)).1) (hts (.instantiable RX0 11) (by decide +kernel))
  obtain ⟨c1, iS1, hKn1⟩ := u_known (C := RX1) (T := TX1) (N := 3) (n := 3) hts (fun w h => (List.mem_filter.mp (g_lay1 w h)).1) (hts (.instantiable RX1 3) (by decide +kernel))
  obtain ⟨c2, iS2, hKn2⟩ := u_known (C := RX2) (T := TX2) (N := 3) (n := 3) hts (fun w h => (List.mem_filter.mp (g_lay2 w h)).1) (hts (.instantiable RX2 3) (by decide +kernel))
  obtain ⟨c3, iS3, hKn3⟩ := u_known (C := RX3) (T := TX3) (N := 5) (n := 5) hts (fun w h => (List.mem_filter.mp (g_lay3 w h)).1) (hts (.instantiable RX3 5) (by decide +kernel))
  obtain ⟨c4, iS4, hKn4⟩ := u_known (C := RX4) (T := TX4) (N := 3) (n := 3) hts (fun w h => (List.mem_filter.mp (g_lay4 w h)).1) (hts (.instantiable RX4 3) (by decide +kernel))
  obtain ⟨c5, iS5, hKn5⟩ := u_known (C := RX5) (T := TX5) (N := 6) (n := 6) hts (fun w h => (List.mem_filter.mp (g_lay5 w h)).1) (hts (.instantiable RX5 6) (by decide +kernel))
  obtain ⟨c6, iS6, hKn6⟩ := u_known (C := RX6) (T := TX6) (N := 3) (n := 3) hts (fun w h => (List.mem_filter.mp (g_lay6 w h)).1) (hts (.instantiable RX6 3) (by decide +kernel))
  obtain ⟨c7, iS7, hKn7⟩ := u_known (C := RX7) (T := TX7) (N := 6) (n := 6) hts (fun w h => (List.mem_filter.mp (g_lay7 w h)).1) (hts (.instantiable RX7 6) (by decide +kernel))
  obtain ⟨c8, iS8, hKn8⟩ := u_known (C := RX8) (T := TX8) (N := 3) (n := 3) hts (fun w h => (List.mem_filter.mp (g_lay8 w h)).1) (hts (.instantiable RX8 3) (by decide +kernel))
  obtain ⟨c9, iS9, hKn9⟩ := u_known (C := RX9) (T := TX9) (N := 13) (n := 13) hts (fun w h => (List.mem_filter.mp (g_lay9 w h)).1) (hts (.instantiable RX9 13) (by decide +kernel))
  obtain ⟨c10, iS10, hKn10⟩ := u_known (C := RX10) (T := TX10) (N := 37) (n := 37) hts (fun w h => (List.mem_filter.mp (g_lay10 w h)).1) (hts (.instantiable RX10 37) (by decide +kernel))
  obtain ⟨dC, dI, hKc⟩ : ∃ (dC : Nat → ClassId) (dI : Nat → Nat → Nat), ∀ (k : Nat) (q : vw_C), g_C[k]? = some q → u_Kn s q.1 q.2.1 q.2.2 (dC k) (dI k) := by
    refine ⟨fun k => [c0, c1, c2, c3, c4, c5, c6, c7, c8, c9, c10].getD k c0, fun k => [iS0, iS1, iS2, iS3, iS4, iS5, iS6, iS7, iS8, iS9, iS10].getD k iS0, ?_⟩
    intro k q hq
    match k, hq with
    | 0, hq => cases hq; exact hKn0
    | 1, hq => cases hq; exact hKn1
    | 2, hq => cases hq; exact hKn2
    | 3, hq => cases hq; exact hKn3
    | 4, hq => cases hq; exact hKn4
    | 5, hq => cases hq; exact hKn5
    | 6, hq => cases hq; exact hKn6
    | 7, hq => cases hq; exact hKn7
    | 8, hq => cases hq; exact hKn8
    | 9, hq => cases hq; exact hKn9
    | 10, hq => cases hq; exact hKn10
    | k + 11, hq => simp [g_C] at hq
  have hK : va_K (dC, dI) g_C [] s := ⟨hKc, fun k q h => by simp at h⟩
  have hA : e_AD (fun i => if i = 0 then b else s.heap.size + (i - 1)) (e_ro g_P) s.heap.size := by
    refine ⟨fun i hi => ?_, fun i hi => ?_, fun i j hi hj _ => ?_⟩
    · have hi : 1 ≤ i := hi
      show (if i = 0 then b else _) = _
      rw [if_neg (by omega)]
      rfl
    · have hi : i < 1 := hi
      show (if i = 0 then b else _) < _
      rw [if_pos (by omega)]
      exact hbl
    · have hi : i < 1 := hi
      have hj : j < 1 := hj
      omega
  obtain ⟨scr, x1, x2, x3, x4, x5⟩ := hX
  have hlen : ((List.range L).map xs).length = L := by simp
  obtain ⟨n, mem', hrun, hl1, hl2⟩ := g_law_run ((List.range L).map xs) (by rw [hlen]; exact hL)
  rw [hlen] at hl2
  have hP : e_P s (dC, dI) (fun i => if i = 0 then b else s.heap.size + (i - 1)) [.inl (false, (List.range L).map xs)] s.heap := by
    intro k c hk
    match k, hk with
    | 0, hk =>
      cases hk
      refine ⟨scr, x1, x2, x3, ?_⟩
      apply Array.ext_getElem?
      intro j
      by_cases hj : j < L
      · rw [x5 j hj]
        simp [hj]
      · have h1 : scr.slots[j]? = none := by
          rw [Array.getElem?_eq_none_iff]
          omega
        have h2 : (((List.range L).map xs).map Value.int).toArray[j]? = none := by
          rw [Array.getElem?_eq_none_iff]
          simp
          omega
        exact h1.trans h2.symm
    | k + 1, hk => simp at hk
  have X : e_X p s m #[Value.ref b] meth c g_P (dC, dI) g_C g_Ts g_Ns g_law := ⟨hx, hb, hml, hown, fun w hw => hts w (List.mem_filter.mp hw).1, fun w hw => by
    obtain ⟨y1, y2, y3, y4, rfl⟩ := g_gN w hw
    exact va_Nw.of rfl (hts _ (g_Ns_in _ hw)), hK, fun h => absurd h (by decide)⟩
  have hl := lv_entry ([.ref b]) (n := 4) (Nat.le_of_ble_eq_true rfl)
  rw [lg_entry_eq]
  generalize (lg_sl ([.ref b]) ++ List.replicate (4 - (lg_sl ([.ref b])).length) Slot.unset).toArray = ls at hl ⊢
  refine e_sound (l := l) (D := (dC, dI)) g_G hA n g_law 0 [(0, .ref 0)] [] [.inl (false, (List.range L).map xs)] (some (.int 1)) mem' hrun (show 1 ≤ 1 from Nat.le_refl 1) p e room_1 s m #[Value.ref b] below meth c (lw_Z below #[Value.ref b] s) 1 L X (by decide) (by decide) (by show _ ≤ 105 + 1; omega) (by show _ ≤ 2414 + L; omega) ?_ s.heap [] 0 0 ls hP (by show _ + 1 = _ + 1; rfl) (fun x hx => by cases hx) hl (by rfl) (by simp [e_sl, e_sz])
  intro pc' i lv' st' hd hre H locs cells slots ls hP hz hlo hl hc hs
  have hre : e_ret (some .boolean) i st' = some (some (.int 1)) := hre
  have hst : i = .ireturn ∧ st' = [.int 1] := by
    unfold e_ret at hre
    split at hre <;> (try simp only [Bool.cond_eq_ite] at hre) <;> (try split at hre) <;> first | (cases hre; exact ⟨rfl, rfl⟩) | cases hre | (rename_i h; cases h)
  obtain ⟨rfl, rfl⟩ := hst
  refine va_forget (fun q hq => hlo q hq) ?_
  refine W.widen (k := 105) (n := 2414) (by omega) (by omega) ?_
  exact lw_ret hx hb hr hlocks hd
-- ===== YOUR PART ENDS =====
set_option maxHeartbeats 4000000 in
theorem lw_walk (l : Launch) (b : Addr) (xs : List Int32) : MetFree l x (headSpec (Jvm.Cond.code x code maxLocals ret :: tables_1) room_1) (lw_P b xs) (fun _ _ _ _ _ => True) lw_Q := by
  refine MetFree.of_bodyS (code := code) (maxLocals := maxLocals) (ret := ret) (by decide) ?_ ?_
  · intro args s m h hn
    obtain ⟨meth, c, h1, h2, h3, h4, h5, h6, -, -⟩ := Cond.code_spec hn (atoms_spec (ws := Jvm.Cond.code x code maxLocals ret :: tables_1) h _ List.mem_cons_self)
    exact ⟨meth, c, h1, h2, h3, h4, h5, h6⟩
  · intro p e s m args below meth c s₁ B hml0 hP _
    obtain ⟨rfl, hx, hbd, hgv⟩ := hP
    obtain ⟨scr, harrAt, hlist, hof, hsmall⟩ := hx
    obtain ⟨hcb, hkn, -, -⟩ := State.arrayAt?_spec harrAt
    have hown : s.vm.findClass R_law = some m.cls := findClass_of_methodNamed B.named
    have hts0 : ∀ c ∈ (Jvm.Cond.code x code maxLocals ret :: tables_1), c.before #[Value.ref b] s = true := atoms_spec (ws := Jvm.Cond.code x code maxLocals ret :: tables_1) B.pre
    have hts : ∀ w ∈ lw_tbl, w.before #[Value.ref b] s = true := k2_hts_sels lw_privs (fun w hw => hts0 w (List.mem_cons_of_mem _ hw)) lw_privs_ok
    have hml : c.maxLocals = 4 := B.maxLocals_eq (hts0 _ List.mem_cons_self)
    have X₀ : Stand p l e room_1 s m #[Value.ref b] below meth c s₁ [] 0 0 := Stand.of_body B
    have hh0 : s₁.heap = s.heap := by rw [B.state]; rfl
    have hsz : scr.slots.size = xs.length := by rw [← Array.length_toList, hlist, List.length_map]
    have hval : ∀ j : Nat, j < xs.length → scr.slots[j]? = some (.int (xs.getD j 0)) := fun j hj => by
      rw [← Array.getElem?_toList, hlist]
      simp [hj]
    have hbl : b < s.heap.size := (Array.getElem?_eq_some_iff.mp hcb).1
    have hX : va_X b xs.length (fun j => xs.getD j 0) s s.heap := ⟨scr, hcb, hof, hkn, hsz, hval⟩
    have K : W p l e room_1 s m #[Value.ref b] below meth c s₁.heap [] 0 0 (lw_Z below #[Value.ref b] s) (entryFrame m ([Value.ref b] : List Value).toArray 4) := by
      rw [hh0]
      exact whole_start l hbd ⟨B.exec, B.bytes, B.returns, hml, hown, hts, hX, hbl, B.notSynchronized, hgv⟩
    obtain ⟨t, a1, o, b1, b2, b3⟩ := K s₁ rfl X₀
    exact ⟨t, o, a1, b1, b2, b3⟩
theorem lw_pre_spec {args : Array Value} {s : State} (h : (Jvm.Cond.and given_1 narrow_1).before args s = true) (hr : rest_1_c.before args s = true) : ∃ (b : Addr) (xs : List Int32), lw_P b xs args s := by
  have hs := flat_of_before _ h
  have hq := flat_of_before _ hr
  have hc : (Cond.count 1).before args s = true := hs _ (by decide +kernel)
  have harr : (Cond.arrayOf (.arg 0) .int).before args s = true := hs _ (by decide +kernel)
  have hle : (Cond.le (.length (.arg 0)) (.int 5)).before args s = true := hs _ (by decide +kernel)
  have hlen : (Cond.isInt (.length (.arg 0))).before args s = true := hq _ (by decide +kernel)
  have hall : (Cond.all (.arg 0) (.isInt (.elem (.arg 0) (.index 0)))).before args s = true := hq _ (by decide +kernel)
  obtain ⟨b, xs, hb, hx⟩ := State.ints_of_pre rfl harr hlen hall
  have hsm : xs.length < 2 ^ 31 := hx.choose_spec.2.2.2
  have hev : (Term.length (.arg 0)).eval args s none [] s = some (.int xs.length.toInt32) := hx.length_eval hb
  have hv := Cond.le_ints hev (show (Term.int 5).eval args s none [] s = some (.int 5) from rfl)
  have hd : xs.length.toInt32 ≤ 5 := by
    simpa [Cond.before, Cond.holds, hv] using hle
  have hN : xs.length ≤ 5 := (Int32.ofNat_le_ofNat hsm (by decide)).mp (show Int32.ofNat xs.length ≤ Int32.ofNat 5 from hd)
  exact ⟨b, xs, Cond.one_arg hc (show args[0]? = some (.ref b) from hb), hx, hN, h⟩
theorem lw_comes (l : Launch) : Comes l x (Jvm.Cond.code x code maxLocals ret :: tables_1) room_1 (fun tb e args s => Calls_1 tb e args s ∧ rest_1 tb e args s ∧ Pre_1 tb e args s)
    (fun _ _ args s o t => lw_Q args s o t) := by
  intro p e ha hc hk s m args below hf hfit hheap happ hpre
  obtain ⟨b, xs, hP⟩ := lw_pre_spec hpre.2.2 hpre.2.1
  obtain ⟨k, o, h1, h2, h3, hQ⟩ := lw_walk l b xs p e ha hc hk s m args below hf ((Spec.applies_iff_loose hf).mp happ).1 hP trivial
  exact ⟨k, o, h1, h2, h3, hQ⟩
theorem lw_frame {s t : State} {o : Outcome} {args : Array Value} (h : Framed s o t [] 105 2414) :
    Framed s o t (fieldLocs frame_1_writes args s ++ arrayLocs frame_1_arrays args s ++ staticLocs frame_1_statics s) 105 2414 := h
theorem lw_limb (L : Cond) (hL : ∀ (args : Array Value) (s t : State), L.after args s (.returned (some (.int 1))) t = true) :
    ArmFor flags0 classFile x code maxLocals ret World_1 tables_1 room_1 Calls_1 rest_1 Pre_1
      (fun tb e a s o t => postC L tb e a s o t ∧ Framed s o t (fieldLocs frame_1_writes a s ++ arrayLocs frame_1_arrays a s ++ staticLocs frame_1_statics s) 105 2414) := by
  intro l _ _ _ p e ha hc hk s m args below hf hfit hheap happ hpre
  obtain ⟨k, o, h1, h2, h3, rfl, hF⟩ := lw_comes l p e ha hc hk s m args below hf hfit hheap happ hpre
  exact ⟨k, _, h1, h2, h3, hL args s _, lw_frame hF⟩
theorem i_vc : Claimed_1_1 ∧ Claimed_1_2 := ⟨lw_limb limb_1_1 (fun args s t => by simp [limb_1_1, Cond.after, Cond.holds, Cond.value]), lw_limb limb_1_2 (fun args s t => Cond.after_iff.mpr (by
  first | (rw [show limb_1_2 = Cond.eq .result (.int 1) from rfl, Cond.eq_ints (x := 1) (y := 1) rfl rfl]; simp; done) | (simp [limb_1_2, Cond.value, Term.eval]; done)))⟩
