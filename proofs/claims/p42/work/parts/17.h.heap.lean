/-! BRANCHES, CELLS, CALLS -/
section HH
variable {P : e_Pg} {Y : h_L} {k pc pc' tg : Nat} {L : List (Nat × Value)} {st : List Value} {σ : h_S} {Q : Option Value → h_S → Prop}
theorem h_br {i : Instr} {o : Int} {st' : List Value} {b : Bool} (hc : e_code P k pc = some (i, 3)) (ho : e_ok (i, 3) = true) (hs : e_smp i = true) (ht : e_tgt pc o = some tg) (hf : ∀ lv mem, e_step P k i pc lv st mem = e_if b pc o lv st' mem) (hp : pc + 3 = pc') (kt : b = true → h_T P Y k tg L st' σ Q) (kf : b = false → h_T P Y k pc' L st' σ Q) : h_T P Y k pc L st σ Q := by
  cases hb : b with
  | true => exact h_pure hc ho hs (fun lv mem hl => by rw [hf, hb]; unfold e_if; rw [ht]; rfl) (kt hb)
  | false => exact h_pure hc ho hs (fun lv mem hl => by subst hp; rw [hf, hb]; unfold e_if; rw [ht]; rfl) (kf hb)
theorem h_ilt {x y : Int32} : x < y ↔ x.toInt < y.toInt := Int32.lt_iff_toInt_lt
theorem h_ile {x y : Int32} : x ≤ y ↔ x.toInt ≤ y.toInt := Int32.le_iff_toInt_le
theorem h_ieq {x y : Int32} : x = y ↔ x.toInt = y.toInt := Int32.toInt_inj.symm
theorem h_clt {x y : Int32} {a b : Int} {o : Int} (hc : e_code P k pc = some (.if_icmp .lt o, 3)) (ht : e_tgt pc o = some tg) (hp : pc + 3 = pc') (hx : x.toInt = a) (hy : y.toInt = b) (kt : a < b → h_T P Y k tg L st σ Q) (kf : b ≤ a → h_T P Y k pc' L st σ Q) : h_T P Y k pc L (.int y :: .int x :: st) σ Q :=
  h_br (b := decide (x < y)) hc rfl rfl ht (fun _ _ => rfl) hp (fun h => kt (by simp only [decide_eq_true_eq, h_ilt] at h; omega)) (fun h => kf (by simp only [decide_eq_false_iff_not, h_ilt] at h; omega))
theorem h_cge {x y : Int32} {a b : Int} {o : Int} (hc : e_code P k pc = some (.if_icmp .ge o, 3)) (ht : e_tgt pc o = some tg) (hp : pc + 3 = pc') (hx : x.toInt = a) (hy : y.toInt = b) (kt : b ≤ a → h_T P Y k tg L st σ Q) (kf : a < b → h_T P Y k pc' L st σ Q) : h_T P Y k pc L (.int y :: .int x :: st) σ Q :=
  h_br (b := decide (y ≤ x)) hc rfl rfl ht (fun _ _ => rfl) hp (fun h => kt (by simp only [decide_eq_true_eq, h_ile] at h; omega)) (fun h => kf (by simp only [decide_eq_false_iff_not, h_ile] at h; omega))
theorem h_cgt {x y : Int32} {a b : Int} {o : Int} (hc : e_code P k pc = some (.if_icmp .gt o, 3)) (ht : e_tgt pc o = some tg) (hp : pc + 3 = pc') (hx : x.toInt = a) (hy : y.toInt = b) (kt : b < a → h_T P Y k tg L st σ Q) (kf : a ≤ b → h_T P Y k pc' L st σ Q) : h_T P Y k pc L (.int y :: .int x :: st) σ Q :=
  h_br (b := decide (y < x)) hc rfl rfl ht (fun _ _ => rfl) hp (fun h => kt (by simp only [decide_eq_true_eq, h_ilt] at h; omega)) (fun h => kf (by simp only [decide_eq_false_iff_not, h_ilt] at h; omega))
theorem h_cle {x y : Int32} {a b : Int} {o : Int} (hc : e_code P k pc = some (.if_icmp .le o, 3)) (ht : e_tgt pc o = some tg) (hp : pc + 3 = pc') (hx : x.toInt = a) (hy : y.toInt = b) (kt : a ≤ b → h_T P Y k tg L st σ Q) (kf : b < a → h_T P Y k pc' L st σ Q) : h_T P Y k pc L (.int y :: .int x :: st) σ Q :=
  h_br (b := decide (x ≤ y)) hc rfl rfl ht (fun _ _ => rfl) hp (fun h => kt (by simp only [decide_eq_true_eq, h_ile] at h; omega)) (fun h => kf (by simp only [decide_eq_false_iff_not, h_ile] at h; omega))
theorem h_ceq {x y : Int32} {a b : Int} {o : Int} (hc : e_code P k pc = some (.if_icmp .eq o, 3)) (ht : e_tgt pc o = some tg) (hp : pc + 3 = pc') (hx : x.toInt = a) (hy : y.toInt = b) (kt : a = b → h_T P Y k tg L st σ Q) (kf : ¬ a = b → h_T P Y k pc' L st σ Q) : h_T P Y k pc L (.int y :: .int x :: st) σ Q :=
  h_br (b := decide (x = y)) hc rfl rfl ht (fun _ _ => rfl) hp (fun h => kt (by simp only [decide_eq_true_eq, h_ieq] at h; omega)) (fun h => kf (by simp only [decide_eq_false_iff_not, h_ieq] at h; omega))
theorem h_cne {x y : Int32} {a b : Int} {o : Int} (hc : e_code P k pc = some (.if_icmp .ne o, 3)) (ht : e_tgt pc o = some tg) (hp : pc + 3 = pc') (hx : x.toInt = a) (hy : y.toInt = b) (kt : ¬ a = b → h_T P Y k tg L st σ Q) (kf : a = b → h_T P Y k pc' L st σ Q) : h_T P Y k pc L (.int y :: .int x :: st) σ Q :=
  h_br (b := !decide (x = y)) hc rfl rfl ht (fun _ _ => rfl) hp (fun h => kt (by simp only [Bool.not_eq_true', decide_eq_false_iff_not, h_ieq] at h; omega)) (fun h => kf (by simp only [Bool.not_eq_false', decide_eq_true_eq, h_ieq] at h; omega))
theorem h_i0 : (0 : Int32).toInt = 0 := rfl
theorem h_zlt {x : Int32} {a : Int} {o : Int} (hc : e_code P k pc = some (.ifCond .lt o, 3)) (ht : e_tgt pc o = some tg) (hp : pc + 3 = pc') (hx : x.toInt = a) (kt : a < 0 → h_T P Y k tg L st σ Q) (kf : 0 ≤ a → h_T P Y k pc' L st σ Q) : h_T P Y k pc L (.int x :: st) σ Q :=
  h_br (b := decide (x < 0)) hc rfl rfl ht (fun _ _ => rfl) hp (fun h => kt (by simp only [decide_eq_true_eq, h_ilt, h_i0] at h; omega)) (fun h => kf (by simp only [decide_eq_false_iff_not, h_ilt, h_i0] at h; omega))
theorem h_zge {x : Int32} {a : Int} {o : Int} (hc : e_code P k pc = some (.ifCond .ge o, 3)) (ht : e_tgt pc o = some tg) (hp : pc + 3 = pc') (hx : x.toInt = a) (kt : 0 ≤ a → h_T P Y k tg L st σ Q) (kf : a < 0 → h_T P Y k pc' L st σ Q) : h_T P Y k pc L (.int x :: st) σ Q :=
  h_br (b := decide (0 ≤ x)) hc rfl rfl ht (fun _ _ => rfl) hp (fun h => kt (by simp only [decide_eq_true_eq, h_ile, h_i0] at h; omega)) (fun h => kf (by simp only [decide_eq_false_iff_not, h_ile, h_i0] at h; omega))
theorem h_zgt {x : Int32} {a : Int} {o : Int} (hc : e_code P k pc = some (.ifCond .gt o, 3)) (ht : e_tgt pc o = some tg) (hp : pc + 3 = pc') (hx : x.toInt = a) (kt : 0 < a → h_T P Y k tg L st σ Q) (kf : a ≤ 0 → h_T P Y k pc' L st σ Q) : h_T P Y k pc L (.int x :: st) σ Q :=
  h_br (b := decide (0 < x)) hc rfl rfl ht (fun _ _ => rfl) hp (fun h => kt (by simp only [decide_eq_true_eq, h_ilt, h_i0] at h; omega)) (fun h => kf (by simp only [decide_eq_false_iff_not, h_ilt, h_i0] at h; omega))
theorem h_zle {x : Int32} {a : Int} {o : Int} (hc : e_code P k pc = some (.ifCond .le o, 3)) (ht : e_tgt pc o = some tg) (hp : pc + 3 = pc') (hx : x.toInt = a) (kt : a ≤ 0 → h_T P Y k tg L st σ Q) (kf : 0 < a → h_T P Y k pc' L st σ Q) : h_T P Y k pc L (.int x :: st) σ Q :=
  h_br (b := decide (x ≤ 0)) hc rfl rfl ht (fun _ _ => rfl) hp (fun h => kt (by simp only [decide_eq_true_eq, h_ile, h_i0] at h; omega)) (fun h => kf (by simp only [decide_eq_false_iff_not, h_ile, h_i0] at h; omega))
theorem h_zeq {x : Int32} {a : Int} {o : Int} (hc : e_code P k pc = some (.ifCond .eq o, 3)) (ht : e_tgt pc o = some tg) (hp : pc + 3 = pc') (hx : x.toInt = a) (kt : a = 0 → h_T P Y k tg L st σ Q) (kf : ¬ a = 0 → h_T P Y k pc' L st σ Q) : h_T P Y k pc L (.int x :: st) σ Q :=
  h_br (b := decide (x = 0)) hc rfl rfl ht (fun _ _ => rfl) hp (fun h => kt (by simp only [decide_eq_true_eq, h_ieq, h_i0] at h; omega)) (fun h => kf (by simp only [decide_eq_false_iff_not, h_ieq, h_i0] at h; omega))
theorem h_zne {x : Int32} {a : Int} {o : Int} (hc : e_code P k pc = some (.ifCond .ne o, 3)) (ht : e_tgt pc o = some tg) (hp : pc + 3 = pc') (hx : x.toInt = a) (kt : ¬ a = 0 → h_T P Y k tg L st σ Q) (kf : a = 0 → h_T P Y k pc' L st σ Q) : h_T P Y k pc L (.int x :: st) σ Q :=
  h_br (b := !decide (x = 0)) hc rfl rfl ht (fun _ _ => rfl) hp (fun h => kt (by simp only [Bool.not_eq_true', decide_eq_false_iff_not, h_ieq, h_i0] at h; omega)) (fun h => kf (by simp only [Bool.not_eq_false', decide_eq_true_eq, h_ieq, h_i0] at h; omega))
/-! a switch -/
def h_sw (F : Nat → Prop) (a : Int) : Int → List Nat → Prop
  | _, [] => True
  | lo, t :: ts => (a = lo → F t) ∧ h_sw F a (lo + 1) ts
theorem h_sw_at {F : Nat → Prop} {a : Int} : ∀ {ts : List Nat} {lo : Int} {i t : Nat}, h_sw F a lo ts → ts[i]? = some t → a = lo + i → F t
  | [], _, _, _, _, h, _ => by simp at h
  | x :: ts, lo, 0, t, hs, h, ha => by
    rw [List.getElem?_cons_zero] at h
    cases h
    exact hs.1 (by omega)
  | x :: ts, lo, i + 1, t, hs, h, ha => by
    rw [List.getElem?_cons_succ] at h
    exact h_sw_at hs.2 h (by omega)
def h_tgs (pc : Nat) : List Int → List Nat → Bool
  | [], [] => true
  | o :: l, t :: ts => (match e_tgt pc o with
    | some u => u == t
    | none => false) && h_tgs pc l ts
  | _, _ => false
theorem h_tgs_at {pc : Nat} : ∀ {l : List Int} {ts : List Nat} {i : Nat} {o : Int}, h_tgs pc l ts = true → l[i]? = some o → ∃ t, ts[i]? = some t ∧ e_tgt pc o = some t
  | [], _, _, _, _, h => by simp at h
  | x :: l, [], _, _, h, _ => by simp [h_tgs] at h
  | x :: l, t :: ts, i, o, h, hi => by
    unfold h_tgs at h
    rw [Bool.and_eq_true] at h
    cases i with
    | zero =>
      rw [List.getElem?_cons_zero] at hi
      cases hi
      have h1 := h.1
      split at h1
      · next u hu => exact ⟨t, rfl, by rw [hu]; simpa using h1⟩
      · cases h1
    | succ i =>
      rw [List.getElem?_cons_succ] at hi
      obtain ⟨t', h1, h2⟩ := h_tgs_at h.2 hi
      exact ⟨t', h1, h2⟩
theorem h_tsw {d lo hi : Int} {offs : Array Int} {n dt : Nat} {ts : List Nat} {x : Int32} {a : Int} (hc : e_code P k pc = some (.tableswitch d lo hi offs, n)) (hd : e_tgt pc d = some dt) (hts : h_tgs pc offs.toList ts = true) (hl : hi - lo + 1 = ts.length) (hx : x.toInt = a) (kd : (a < lo ∨ hi < a) → h_T P Y k dt L st σ Q) (ks : h_sw (fun t => h_T P Y k t L st σ Q) a lo ts) : h_T P Y k pc L (.int x :: st) σ Q := by
  have hsz : ∀ {l : List Int} {ts : List Nat}, h_tgs pc l ts = true → l.length = ts.length := by
    intro l
    induction l with
    | nil => intro ts h; cases ts with
      | nil => rfl
      | cons t ts => simp [h_tgs] at h
    | cons o l ih => intro ts h; cases ts with
      | nil => simp [h_tgs] at h
      | cons t ts => unfold h_tgs at h; rw [Bool.and_eq_true] at h; rw [List.length_cons, List.length_cons, ih h.2]
  by_cases h : a < lo ∨ hi < a
  · refine h_pure hc (by simp [e_ok, e_len]) rfl (fun lv mem hl => ?_) (kd h)
    unfold e_step e_tsw
    have : (decide (x.toInt < lo) || decide (hi < x.toInt)) = true := by rw [hx]; simpa using h
    dsimp only
    rw [this]
    unfold e_jmp
    rw [hd]
    rfl
  · have hi0 : (a - lo).toNat < offs.toList.length := by rw [hsz hts]; omega
    obtain ⟨t, h1, h2⟩ := h_tgs_at hts (List.getElem?_eq_getElem hi0)
    refine h_pure hc (by simp [e_ok, e_len]) rfl (fun lv mem hl => ?_) (h_sw_at ks h1 (by omega))
    unfold e_step e_tsw
    have : (decide (x.toInt < lo) || decide (hi < x.toInt)) = false := by rw [hx]; simpa using h
    dsimp only
    rw [this, hx, List.getElem?_eq_getElem hi0]
    show e_jmp _ _ _ _ _ = _
    unfold e_jmp
    rw [h2]
/-! cells -/
theorem h_R.arr {mem : List e_C} {q t : Nat} {z : Bool} (h : h_R Y σ mem) (hY : Y.1 q = some (.inl (z, t))) : ∃ a : Bool × List Int32, mem[q]? = some (.inl a) ∧ a.1 = z ∧ a.2.length = t ∧ ∀ (j : Nat) (x : Int32), a.2[j]? = some x → x.toInt = σ q (j : Int) := by
  obtain ⟨c, h1, h2⟩ := h.2.2 q _ hY
  cases c with
  | inl a => exact ⟨a, h1, h2⟩
  | inr o => exact h2.elim
theorem h_R.obj {mem : List e_C} {q cn : Nat} {fs : List (Option Value)} (h : h_R Y σ mem) (hY : Y.1 q = some (.inr (cn, fs))) : ∃ o : Nat × List Value, mem[q]? = some (.inr o) ∧ o.1 = cn ∧ o.2.length = fs.length ∧ ∀ (j : Nat), (∀ v, fs[j]? = some (some v) → o.2[j]? = some v) ∧ (fs[j]? = some none → ∃ x : Int32, o.2[j]? = some (.int x) ∧ x.toInt = σ q (j : Int)) := by
  obtain ⟨c, h1, h2⟩ := h.2.2 q _ hY
  cases c with
  | inl a => exact h2.elim
  | inr o => exact ⟨o, h1, h2⟩
theorem h_cl {j : Int32} {a : Int} {t : Nat} (hj : j.toInt = a) (h0 : 0 ≤ a) (h1 : a < t) : (decide (j < 0)) = false ∧ j.toNatClampNeg < t ∧ ((j.toNatClampNeg : Nat) : Int) = a := by
  have e : ((j.toNatClampNeg : Nat) : Int) = j.toInt := by
    show ((j.toInt.toNat : Nat) : Int) = j.toInt
    omega
  refine ⟨?_, by omega, by omega⟩
  rw [decide_eq_false_iff_not, h_ilt, h_i0]
  omega
theorem h_ald {z : Bool} {i : Instr} {q t : Nat} {j : Int32} {a v : Int} (hc : e_code P k pc = some (i, 1)) (ho : e_ok (i, 1) = true) (hs : e_smp i = true) (hf : ∀ lv mem, e_step P k i pc lv (.int j :: .ref q :: st) mem = e_ald (pc + 1) lv (.int j :: .ref q :: st) mem z) (hp : pc + 1 = pc') (hY : Y.1 q = some (.inl (z, t))) (hj : j.toInt = a) (h0 : 0 ≤ a) (h1 : a < t) (hv : σ q a = v) (kk : ∀ x : Int32, x.toInt = v → h_T P Y k pc' L (.int x :: st) σ Q) : h_T P Y k pc L (.int j :: .ref q :: st) σ Q := by
  intro lv mem hl hR
  obtain ⟨r, m1, m2, m3, m4⟩ := hR.arr hY
  obtain ⟨c1, c2, c3⟩ := h_cl hj h0 h1
  have hlt : j.toNatClampNeg < r.2.length := by rw [m3]; exact c2
  have hx := List.getElem?_eq_getElem hlt
  have hxv : (r.2[j.toNatClampNeg]).toInt = v := by rw [m4 _ _ hx, c3, hv]
  obtain ⟨y, τ, h4, h5⟩ := kk _ hxv lv mem hl hR
  refine ⟨y, τ, e_Ev.step (x := (i, 1)) hc ho hs (F := (pc', lv, .int r.2[j.toNatClampNeg] :: st, mem)) ?_ h4, h5⟩
  subst hp
  rw [hf]
  simp only [e_ald, m1, m2, c1, hx, beq_self_eq_true, Bool.not_false, Bool.and_true, cond_true]
theorem h_iald {q t : Nat} {j : Int32} {a v : Int} (hc : e_code P k pc = some (.iaload, 1)) (hp : pc + 1 = pc') (hY : Y.1 q = some (.inl (false, t))) (hj : j.toInt = a) (h0 : 0 ≤ a) (h1 : a < t) (hv : σ q a = v) (kk : ∀ x : Int32, x.toInt = v → h_T P Y k pc' L (.int x :: st) σ Q) : h_T P Y k pc L (.int j :: .ref q :: st) σ Q :=
  h_ald hc rfl rfl (fun _ _ => rfl) hp hY hj h0 h1 hv kk
theorem h_bald {q t : Nat} {j : Int32} {a v : Int} (hc : e_code P k pc = some (.baload, 1)) (hp : pc + 1 = pc') (hY : Y.1 q = some (.inl (true, t))) (hj : j.toInt = a) (h0 : 0 ≤ a) (h1 : a < t) (hv : σ q a = v) (kk : ∀ x : Int32, x.toInt = v → h_T P Y k pc' L (.int x :: st) σ Q) : h_T P Y k pc L (.int j :: .ref q :: st) σ Q :=
  h_ald hc rfl rfl (fun _ _ => rfl) hp hY hj h0 h1 hv kk
theorem h_alen {q t : Nat} {z : Bool} {n : Int} (hc : e_code P k pc = some (.arraylength, 1)) (hp : pc + 1 = pc') (hY : Y.1 q = some (.inl (z, t))) (hn : (Int32.ofNat t).toInt = n) (kk : ∀ x : Int32, x.toInt = n → h_T P Y k pc' L (.int x :: st) σ Q) : h_T P Y k pc L (.ref q :: st) σ Q := by
  intro lv mem hl hR
  obtain ⟨r, m1, m2, m3, m4⟩ := hR.arr hY
  obtain ⟨y, τ, h4, h5⟩ := kk _ hn lv mem hl hR
  refine ⟨y, τ, e_Ev.step (x := (.arraylength, 1)) hc rfl rfl (F := (pc', lv, .int (Int32.ofNat t) :: st, mem)) ?_ h4, h5⟩
  subst hp
  simp only [e_step, e_alen, m1, m3]
theorem h_upd_a {mem : List e_C} {q t j : Nat} {z : Bool} {r : Bool × List Int32} {x : Int32} {a v : Int} (hR : h_R Y σ mem) (hY : Y.1 q = some (.inl (z, t))) (hr : mem[q]? = some (.inl r)) (hj : j < r.2.length) (ha : (j : Int) = a) (hx : x.toInt = v) : h_R Y (h_up σ q a v) (mem.set q (.inl (r.1, r.2.set j x))) := by
  obtain ⟨r', m1, m2, m3, m4⟩ := hR.arr hY
  cases hr.symm.trans m1
  have hl : q < mem.length := (List.getElem?_eq_some_iff.mp hr).1
  refine ⟨by rw [List.length_set]; exact hR.1, by rw [e_sl_set hr (by simp [e_sz])]; exact hR.2.1, fun p y hp => ?_⟩
  by_cases hpq : p = q
  · subst hpq
    cases hY.symm.trans hp
    refine ⟨_, List.getElem?_set_self hl, m2, by rw [List.length_set]; exact m3, fun i w hi => ?_⟩
    unfold h_up
    by_cases hij : i = j
    · subst hij
      rw [List.getElem?_set_self hj] at hi
      cases hi
      rw [if_pos ⟨rfl, ha⟩]
      exact hx
    · rw [List.getElem?_set_ne (Ne.symm hij)] at hi
      rw [if_neg (by intro h; have := h.2; omega)]
      exact m4 i w hi
  · obtain ⟨c, c1, c2⟩ := hR.2.2 p y hp
    refine ⟨c, by rw [List.getElem?_set_ne (Ne.symm hpq)]; exact c1, ?_⟩
    cases y with
    | inl u =>
      cases c with
      | inl b => exact ⟨c2.1, c2.2.1, fun i w hi => by rw [c2.2.2 i w hi]; unfold h_up; rw [if_neg (fun h => hpq h.1)]⟩
      | inr o => exact c2.elim
    | inr u =>
      cases c with
      | inl b => exact c2.elim
      | inr o => exact ⟨c2.1, c2.2.1, fun i => ⟨(c2.2.2 i).1, fun hi => by
          obtain ⟨w, w1, w2⟩ := (c2.2.2 i).2 hi
          exact ⟨w, w1, by rw [w2]; unfold h_up; rw [if_neg (fun h => hpq h.1)]⟩⟩⟩
theorem h_upd_f {mem : List e_C} {q cn j : Nat} {fs : List (Option Value)} {o : Nat × List Value} {x : Int32} {v : Int} (hR : h_R Y σ mem) (hY : Y.1 q = some (.inr (cn, fs))) (hr : mem[q]? = some (.inr o)) (hj : fs[j]? = some none) (hx : x.toInt = v) : h_R Y (h_up σ q (j : Int) v) (mem.set q (.inr (o.1, o.2.set j (.int x)))) := by
  obtain ⟨r', m1, m2, m3, m4⟩ := hR.obj hY
  cases hr.symm.trans m1
  have hl : q < mem.length := (List.getElem?_eq_some_iff.mp hr).1
  have hjl : j < o.2.length := by rw [m3]; exact (List.getElem?_eq_some_iff.mp hj).1
  refine ⟨by rw [List.length_set]; exact hR.1, by rw [e_sl_set hr (by simp [e_sz])]; exact hR.2.1, fun p y hp => ?_⟩
  by_cases hpq : p = q
  · subst hpq
    cases hY.symm.trans hp
    refine ⟨_, List.getElem?_set_self hl, m2, by rw [List.length_set]; exact m3, fun i => ?_⟩
    by_cases hij : i = j
    · subst hij
      refine ⟨fun w hw => ?_, fun _ => ⟨x, List.getElem?_set_self hjl, by unfold h_up; rw [if_pos ⟨rfl, rfl⟩]; exact hx⟩⟩
      have hw : fs[i]? = some (some w) := hw
      rw [hj] at hw
      cases hw
    · refine ⟨fun w hw => by rw [List.getElem?_set_ne (Ne.symm hij)]; exact (m4 i).1 w hw, fun hi => ?_⟩
      obtain ⟨w, w1, w2⟩ := (m4 i).2 hi
      exact ⟨w, by rw [List.getElem?_set_ne (Ne.symm hij)]; exact w1, by rw [w2]; unfold h_up; rw [if_neg (by intro h; have := h.2; omega)]⟩
  · obtain ⟨c, c1, c2⟩ := hR.2.2 p y hp
    refine ⟨c, by rw [List.getElem?_set_ne (Ne.symm hpq)]; exact c1, ?_⟩
    cases y with
    | inl u =>
      cases c with
      | inl b => exact ⟨c2.1, c2.2.1, fun i w hi => by rw [c2.2.2 i w hi]; unfold h_up; rw [if_neg (fun h => hpq h.1)]⟩
      | inr o => exact c2.elim
    | inr u =>
      cases c with
      | inl b => exact c2.elim
      | inr o => exact ⟨c2.1, c2.2.1, fun i => ⟨(c2.2.2 i).1, fun hi => by
          obtain ⟨w, w1, w2⟩ := (c2.2.2 i).2 hi
          exact ⟨w, w1, by rw [w2]; unfold h_up; rw [if_neg (fun h => hpq h.1)]⟩⟩⟩
theorem h_iast {q t : Nat} {j x : Int32} {a v : Int} (hc : e_code P k pc = some (.iastore, 1)) (hp : pc + 1 = pc') (hY : Y.1 q = some (.inl (false, t))) (hro : Nat.ble (e_ro P) q = true) (hj : j.toInt = a) (h0 : 0 ≤ a) (h1 : a < t) (hx : x.toInt = v) (kk : h_T P Y k pc' L st (h_up σ q a v) Q) : h_T P Y k pc L (.int x :: .int j :: .ref q :: st) σ Q := by
  intro lv mem hl hR
  obtain ⟨r, m1, m2, m3, m4⟩ := hR.arr hY
  obtain ⟨c1, c2, c3⟩ := h_cl hj h0 h1
  have hlt : j.toNatClampNeg < r.2.length := by rw [m3]; exact c2
  obtain ⟨y, τ, h4, h5⟩ := kk lv _ hl (h_upd_a hR hY m1 hlt c3 hx)
  refine ⟨y, τ, e_Ev.step (x := (.iastore, 1)) hc rfl rfl (F := (pc', lv, st, _)) ?_ h4, h5⟩
  subst hp
  have hb : Nat.blt j.toNatClampNeg r.2.length = true := by simpa using hlt
  simp only [e_step, e_ast, m1, m2, c1, hb, hro, beq_self_eq_true, Bool.not_false, Bool.true_or, Bool.and_true, cond_true]
theorem h_bast {q t : Nat} {j x : Int32} {a v : Int} (hc : e_code P k pc = some (.bastore, 1)) (hp : pc + 1 = pc') (hY : Y.1 q = some (.inl (true, t))) (hro : Nat.ble (e_ro P) q = true) (hj : j.toInt = a) (h0 : 0 ≤ a) (h1 : a < t) (hx : x.toInt = v) (hb01 : v = 0 ∨ v = 1) (kk : h_T P Y k pc' L st (h_up σ q a v) Q) : h_T P Y k pc L (.int x :: .int j :: .ref q :: st) σ Q := by
  intro lv mem hl hR
  obtain ⟨r, m1, m2, m3, m4⟩ := hR.arr hY
  obtain ⟨c1, c2, c3⟩ := h_cl hj h0 h1
  have hlt : j.toNatClampNeg < r.2.length := by rw [m3]; exact c2
  obtain ⟨y, τ, h4, h5⟩ := kk lv _ hl (h_upd_a hR hY m1 hlt c3 hx)
  refine ⟨y, τ, e_Ev.step (x := (.bastore, 1)) hc rfl rfl (F := (pc', lv, st, _)) ?_ h4, h5⟩
  subst hp
  have hb : Nat.blt j.toNatClampNeg r.2.length = true := by simpa using hlt
  have hft : e_fit .boolean (.int x) = true := by
    show (decide (x = 0) || decide (x = 1)) = true
    rw [Bool.or_eq_true, decide_eq_true_eq, decide_eq_true_eq, h_ieq, h_ieq]
    have : (1 : Int32).toInt = 1 := rfl
    rw [h_i0, this]
    omega
  simp only [e_step, e_ast, m1, m2, c1, hb, hro, hft, beq_self_eq_true, Bool.not_false, Bool.not_true, Bool.false_or, Bool.and_true, cond_true]
theorem h_getI {n q cn j : Nat} {ty : FieldType} {b : Bool} {fs : List (Option Value)} {v : Int} (hc : e_code P k pc = some (.getfield n, 3)) (hp : pc + 3 = pc') (hf : e_fld P k n = some (cn, j, ty, b)) (hY : Y.1 q = some (.inr (cn, fs))) (hj : fs[j]? = some none) (hv : σ q (j : Int) = v) (kk : ∀ x : Int32, x.toInt = v → h_T P Y k pc' L (.int x :: st) σ Q) : h_T P Y k pc L (.ref q :: st) σ Q := by
  intro lv mem hl hR
  obtain ⟨o, m1, m2, m3, m4⟩ := hR.obj hY
  obtain ⟨x, x1, x2⟩ := (m4 j).2 hj
  obtain ⟨y, τ, h4, h5⟩ := kk x (by rw [x2, hv]) lv mem hl hR
  refine ⟨y, τ, e_Ev.step (x := (.getfield n, 3)) hc rfl rfl (F := (pc', lv, .int x :: st, mem)) ?_ h4, h5⟩
  subst hp
  show e_getf _ _ _ _ _ = _
  simp only [e_getf, hf, m1, m2, x1, beq_self_eq_true, cond_true]
theorem h_getR {n q cn j : Nat} {ty : FieldType} {b : Bool} {fs : List (Option Value)} {v : Value} (hc : e_code P k pc = some (.getfield n, 3)) (hp : pc + 3 = pc') (hf : e_fld P k n = some (cn, j, ty, b)) (hY : Y.1 q = some (.inr (cn, fs))) (hj : fs[j]? = some (some v)) (kk : h_T P Y k pc' L (v :: st) σ Q) : h_T P Y k pc L (.ref q :: st) σ Q := by
  intro lv mem hl hR
  obtain ⟨o, m1, m2, m3, m4⟩ := hR.obj hY
  have x1 := (m4 j).1 v hj
  obtain ⟨y, τ, h4, h5⟩ := kk lv mem hl hR
  refine ⟨y, τ, e_Ev.step (x := (.getfield n, 3)) hc rfl rfl (F := (pc', lv, v :: st, mem)) ?_ h4, h5⟩
  subst hp
  show e_getf _ _ _ _ _ = _
  simp only [e_getf, hf, m1, m2, x1, beq_self_eq_true, cond_true]
theorem h_put {n q cn j : Nat} {ty : FieldType} {fs : List (Option Value)} {x : Int32} {v : Int} (hc : e_code P k pc = some (.putfield n, 3)) (hp : pc + 3 = pc') (hf : e_fld P k n = some (cn, j, ty, false)) (hY : Y.1 q = some (.inr (cn, fs))) (hj : fs[j]? = some none) (hro : Nat.ble (e_ro P) q = true) (hx : x.toInt = v) (hft : e_fit ty (.int x) = true) (kk : h_T P Y k pc' L st (h_up σ q (j : Int) v) Q) : h_T P Y k pc L (.int x :: .ref q :: st) σ Q := by
  intro lv mem hl hR
  obtain ⟨o, m1, m2, m3, m4⟩ := hR.obj hY
  obtain ⟨y, τ, h4, h5⟩ := kk lv _ hl (h_upd_f hR hY m1 hj hx)
  refine ⟨y, τ, e_Ev.step (x := (.putfield n, 3)) hc rfl rfl (F := (pc', lv, st, _)) ?_ h4, h5⟩
  subst hp
  show e_putf _ _ _ _ _ _ = _
  have hjl : Nat.blt j o.2.length = true := by
    have := (List.getElem?_eq_some_iff.mp hj).1
    rw [← m3] at this
    simpa using this
  simp only [e_putf, hf, m1, m2, hjl, hft, hro, beq_self_eq_true, Bool.not_false, Bool.and_true, cond_true]
theorem h_fb {x : Int32} {v : Int} (hx : x.toInt = v) (h : v = 0 ∨ v = 1) : e_fit .boolean (.int x) = true := by
  show (decide (x = 0) || decide (x = 1)) = true
  rw [Bool.or_eq_true, decide_eq_true_eq, decide_eq_true_eq, h_ieq, h_ieq]
  have : (1 : Int32).toInt = 1 := rfl
  rw [h_i0, this]
  omega
/-! calls and returns -/
theorem h_call {i : Instr} {sp : Bool} {n m np cn q : Nat} {nst : Bool} {fs : List (Option Value)} {rest : List Value} {M : List (Nat × Value)} (hi : i = bif sp then .invokespecial n else .invokevirtual n) (hc : e_code P k pc = some (i, 3)) (hp : pc + 3 = pc') (hcal : e_cal P k n = some (m, np, cn, nst)) (hst : st.drop np = .ref q :: rest) (hY : Y.1 q = some (.inr (cn, fs))) (hcd : (!(m == 0) && (!(cn == 99) && (e_low rest && (e_room P k m (.ref q :: (st.take np).reverse) && (sp == (e_rmo P m).2.2))))) = true) (hM : lv_args 0 (.ref q :: (st.take np).reverse) = M)
    (kk : h_T P Y m 0 M [] σ (h_K P Y k pc' L rest Q)) : h_T P Y k pc L st σ Q := by
  intro lv mem hl hR
  obtain ⟨o, m1, m2, m3, m4⟩ := hR.obj hY
  have hM1 : h_loc M (lv_args 0 (.ref q :: (st.take np).reverse)) := by
    have key : ∀ (vs : List Value) (b : Nat), (∀ p ∈ lv_args b vs, b ≤ p.1) ∧ h_loc (lv_args b vs) (lv_args b vs) := by
      intro vs
      induction vs with
      | nil => exact fun b => ⟨fun p hp => absurd hp List.not_mem_nil, fun p hp => absurd hp List.not_mem_nil⟩
      | cons v vs ih =>
        intro b
        obtain ⟨i1, i2⟩ := ih (if v.category = 2 then b + 2 else b + 1)
        have hlo : ∀ p ∈ lv_args (if v.category = 2 then b + 2 else b + 1) vs, b < p.1 := fun p hp => by
          have := i1 p hp
          split at this <;> omega
        unfold lv_args
        refine ⟨fun p hp => ?_, fun p hp => ?_⟩
        · rcases List.mem_cons.mp hp with rfl | hp
          · exact Nat.le_refl _
          · exact Nat.le_of_lt (hlo p hp)
        · rcases List.mem_cons.mp hp with rfl | hp
          · simp [e_get]
          · have hne : (b == p.1) = false := by have := hlo p hp; simp; omega
            unfold e_get
            rw [show ((b, v).1 == p.1) = false from hne]
            exact i2 p hp
    rw [← hM]
    exact (key _ 0).2
  obtain ⟨y, τ, h1, h2, h3⟩ := kk _ mem hM1 hR
  have hnext : ∃ (z : Option Value × List e_C) (υ : h_S), e_Ev P k pc' lv (y.1.toList ++ rest) y.2 z ∧ h_R Y υ z.2 ∧ Q z.1 υ := by
    unfold h_K at h3
    split at h3
    · next v hv =>
      rw [hv]
      exact h3 lv y.2 hl h2
    · next hv =>
      rw [hv]
      exact h3 lv y.2 hl h2
  obtain ⟨z, υ, g1, g2, g3⟩ := hnext
  refine ⟨z, υ, ?_, g2, g3⟩
  obtain ⟨N, hN⟩ := e_two h1 g1
  refine e_Ev.of (x := (i, 3)) hc (by subst hi; cases sp <;> rfl) ⟨N, ?_⟩
  have he : e_one P (e_run P N) k pc lv st mem i = e_inv P (e_run P N) k pc lv st mem sp n := by
    subst hi
    cases sp <;> rfl
  show e_one P (e_run P N) k pc lv st mem i = _
  rw [he]
  unfold e_inv
  rw [Bool.and_eq_true] at hcd
  have hm0 : (m == 0) = false := by simpa using hcd.1
  subst hp
  simp only [hcal, hst, hm0, cond_false, m1, m2, beq_self_eq_true, Bool.true_and, hcd.2, cond_true]
  exact hN
theorem h_calls {n m np : Nat} {nst : Bool} {rest : List Value} {M : List (Nat × Value)} (hc : e_code P k pc = some (.invokestatic n, 3)) (hp : pc + 3 = pc') (hcal : e_cal P k n = some (m, np, 99, nst)) (hst : st.drop np = rest) (hcd : (!(m == 0) && (Nat.ble np st.length && (e_low rest && (e_room P k m (st.take np).reverse && true)))) = true) (hM : lv_args 0 (st.take np).reverse = M)
    (kk : h_T P Y m 0 M [] σ (h_K P Y k pc' L rest Q)) : h_T P Y k pc L st σ Q := by
  intro lv mem hl hR
  have hM1 : h_loc M (lv_args 0 (st.take np).reverse) := by
    have key : ∀ (vs : List Value) (b : Nat), (∀ p ∈ lv_args b vs, b ≤ p.1) ∧ h_loc (lv_args b vs) (lv_args b vs) := by
      intro vs
      induction vs with
      | nil => exact fun b => ⟨fun p hp => absurd hp List.not_mem_nil, fun p hp => absurd hp List.not_mem_nil⟩
      | cons v vs ih =>
        intro b
        obtain ⟨i1, i2⟩ := ih (if v.category = 2 then b + 2 else b + 1)
        have hlo : ∀ p ∈ lv_args (if v.category = 2 then b + 2 else b + 1) vs, b < p.1 := fun p hp => by
          have := i1 p hp
          split at this <;> omega
        unfold lv_args
        refine ⟨fun p hp => ?_, fun p hp => ?_⟩
        · rcases List.mem_cons.mp hp with rfl | hp
          · exact Nat.le_refl _
          · exact Nat.le_of_lt (hlo p hp)
        · rcases List.mem_cons.mp hp with rfl | hp
          · simp [e_get]
          · have hne : (b == p.1) = false := by have := hlo p hp; simp; omega
            unfold e_get
            rw [show ((b, v).1 == p.1) = false from hne]
            exact i2 p hp
    rw [← hM]
    exact (key _ 0).2
  obtain ⟨y, τ, h1, h2, h3⟩ := kk _ mem hM1 hR
  have hnext : ∃ (z : Option Value × List e_C) (υ : h_S), e_Ev P k pc' lv (y.1.toList ++ rest) y.2 z ∧ h_R Y υ z.2 ∧ Q z.1 υ := by
    unfold h_K at h3
    split at h3
    · next v hv =>
      rw [hv]
      exact h3 lv y.2 hl h2
    · next hv =>
      rw [hv]
      exact h3 lv y.2 hl h2
  obtain ⟨z, υ, g1, g2, g3⟩ := hnext
  refine ⟨z, υ, ?_, g2, g3⟩
  obtain ⟨N, hN⟩ := e_two h1 g1
  refine e_Ev.of (x := (.invokestatic n, 3)) hc rfl ⟨N, ?_⟩
  show e_ivs P (e_run P N) k pc lv st mem n = _
  unfold e_ivs
  rw [Bool.and_eq_true] at hcd
  have hm0 : (m == 0) = false := by simpa using hcd.1
  subst hp
  have h5 := hcd.2
  simp only [hcal, hst, hm0, cond_false, beq_self_eq_true, h5, cond_true]
  exact hN
theorem h_iret {x : Int32} (hc : e_code P k pc = some (.ireturn, 1)) (ht : (e_mth P k).2.2.2 = some .int) (kk : Q (some (.int x)) σ) : h_T P Y k pc L [.int x] σ Q := by
  intro lv mem hl hR
  refine ⟨(some (.int x), mem), σ, e_Ev.of (x := (.ireturn, 1)) hc rfl ⟨0, ?_⟩, hR, kk⟩
  show e_rt mem (e_ret (e_mth P k).2.2.2 .ireturn _) = _
  rw [ht]
  rfl
theorem h_zret {x : Int32} {v : Int} (hc : e_code P k pc = some (.ireturn, 1)) (ht : (e_mth P k).2.2.2 = some .boolean) (hx : x.toInt = v) (hb : v = 0 ∨ v = 1) (kk : Q (some (.int x)) σ) : h_T P Y k pc L [.int x] σ Q := by
  intro lv mem hl hR
  refine ⟨(some (.int x), mem), σ, e_Ev.of (x := (.ireturn, 1)) hc rfl ⟨0, ?_⟩, hR, kk⟩
  show e_rt mem (e_ret (e_mth P k).2.2.2 .ireturn _) = _
  rw [ht]
  simp only [e_ret, h_fb hx hb, cond_true]
  rfl
theorem h_lret {x : Int64} (hc : e_code P k pc = some (.lreturn, 1)) (ht : (e_mth P k).2.2.2 = some .long) (kk : Q (some (.long x)) σ) : h_T P Y k pc L [.long x] σ Q := by
  intro lv mem hl hR
  refine ⟨(some (.long x), mem), σ, e_Ev.of (x := (.lreturn, 1)) hc rfl ⟨0, ?_⟩, hR, kk⟩
  show e_rt mem (e_ret (e_mth P k).2.2.2 .lreturn _) = _
  rw [ht]
  rfl
theorem h_aret {q : Nat} {cn : String} (hc : e_code P k pc = some (.areturn, 1)) (ht : (e_mth P k).2.2.2 = some (.object cn)) (kk : Q (some (.ref q)) σ) : h_T P Y k pc L [.ref q] σ Q := by
  intro lv mem hl hR
  refine ⟨(some (.ref q), mem), σ, e_Ev.of (x := (.areturn, 1)) hc rfl ⟨0, ?_⟩, hR, kk⟩
  show e_rt mem (e_ret (e_mth P k).2.2.2 .areturn _) = _
  rw [ht]
  rfl
theorem h_vret (hc : e_code P k pc = some (.return_, 1)) (ht : (e_mth P k).2.2.2 = none) (kk : Q none σ) : h_T P Y k pc L [] σ Q := by
  intro lv mem hl hR
  refine ⟨(none, mem), σ, e_Ev.of (x := (.return_, 1)) hc rfl ⟨0, ?_⟩, hR, kk⟩
  show e_rt mem (e_ret (e_mth P k).2.2.2 .return_ _) = _
  rw [ht]
  rfl
/-! what is built in -/
theorem h_blt {n np cd : Nat} {nst : Bool} {st' : List Value} {σ' : h_S} (hc : e_code P k pc = some (.invokestatic n, 3)) (hcal : e_cal P k n = some (0, np, cd, nst)) (h : ∀ lv mem, h_loc L lv → h_R Y σ mem → ∃ mem', e_bli P k cd pc lv st mem = some (pc', lv, st', mem') ∧ h_R Y σ' mem') (kk : h_T P Y k pc' L st' σ' Q) : h_T P Y k pc L st σ Q := by
  intro lv mem hl hR
  obtain ⟨mem', h1, h2⟩ := h lv mem hl hR
  obtain ⟨y, τ, ⟨N, hN⟩, h5⟩ := kk lv mem' hl h2
  refine ⟨y, τ, e_Ev.of (x := (.invokestatic n, 3)) hc rfl ⟨N, ?_⟩, h5⟩
  show e_ivs P (e_run P N) k pc lv st mem n = _
  unfold e_ivs
  simp only [hcal, beq_self_eq_true, cond_true, h1]
  exact hN
theorem h_min {n np : Nat} {nst : Bool} {x y : Int32} {a b : Int} (hc : e_code P k pc = some (.invokestatic n, 3)) (hp : pc + 3 = pc') (hcal : e_cal P k n = some (0, np, 97, nst)) (hr : (Nat.ble 1 (e_rmo P k).1 && Nat.ble 26 (e_rmo P k).2.1) = true) (hl : e_low st = true) (hx : x.toInt = a) (hy : y.toInt = b) (kk : ∀ z : Int32, ((b < a ∧ z.toInt = b) ∨ (a ≤ b ∧ z.toInt = a)) → h_T P Y k pc' L (.int z :: st) σ Q) : h_T P Y k pc L (.int y :: .int x :: st) σ Q := by
  refine h_blt (st' := .int (if y < x then y else x) :: st) hc hcal (fun lv mem _ hR => ⟨mem, ?_, hR⟩) (kk _ ?_)
  · subst hp
    unfold e_bli
    rw [hr]
    simp only [cond_true, e_min, hl]
    rfl
  · by_cases h : y < x
    · rw [if_pos h]; rw [h_ilt] at h; exact Or.inl ⟨by omega, hy⟩
    · rw [if_neg h]; rw [h_ilt] at h; exact Or.inr ⟨by omega, hx⟩
theorem h_max {n np : Nat} {nst : Bool} {x y : Int32} {a b : Int} (hc : e_code P k pc = some (.invokestatic n, 3)) (hp : pc + 3 = pc') (hcal : e_cal P k n = some (0, np, 96, nst)) (hr : (Nat.ble 1 (e_rmo P k).1 && Nat.ble 26 (e_rmo P k).2.1) = true) (hl : e_low st = true) (hx : x.toInt = a) (hy : y.toInt = b) (kk : ∀ z : Int32, ((a < b ∧ z.toInt = b) ∨ (b ≤ a ∧ z.toInt = a)) → h_T P Y k pc' L (.int z :: st) σ Q) : h_T P Y k pc L (.int y :: .int x :: st) σ Q := by
  have key : ∃ z : Int32, (∀ lv mem, e_max (pc + 3) lv (.int y :: .int x :: st) mem = some (pc + 3, lv, .int z :: st, mem)) ∧ ((a < b ∧ z.toInt = b) ∨ (b ≤ a ∧ z.toInt = a)) := by
    by_cases h : x < y
    · refine ⟨y, fun lv mem => ?_, Or.inl ⟨by rw [h_ilt] at h; omega, hy⟩⟩
      simp only [e_max, hl, cond_true]
      first | rw [if_pos h] | rw [if_neg (fun q => by rw [h_ilt] at *; omega)] | (rw [if_neg (fun q => by rw [h_ile] at q; rw [h_ilt] at h; omega)])
    · rw [h_ilt] at h
      refine ⟨x, fun lv mem => ?_, Or.inr ⟨by omega, hx⟩⟩
      simp only [e_max, hl, cond_true]
      first | rw [if_neg (fun q => by rw [h_ilt] at q; omega)] | (rw [if_pos (by rw [h_ile]; omega)])
  obtain ⟨z, h1, h2⟩ := key
  refine h_blt (st' := .int z :: st) hc hcal (fun lv mem _ hR => ⟨mem, ?_, hR⟩) (kk _ h2)
  subst hp
  unfold e_bli
  rw [hr]
  simp only [cond_true]
  exact h1 lv mem
/-- a row is copied whole -/
def h_cp (σ : h_S) (q0 q1 n : Nat) : h_S := fun p i => if p = q1 ∧ 0 ≤ i ∧ i < n then σ q0 i else σ p i
theorem h_wr_get {α : Type} : ∀ (l : List α) (i : Nat) (ys : List α) (j : Nat), i + l.length ≤ ys.length → (e_wr l i ys)[j]? = if i ≤ j ∧ j < i + l.length then l[j - i]? else ys[j]?
  | [], i, ys, j, _ => by unfold e_wr; rw [if_neg (by simp only [List.length_nil]; omega)]
  | x :: l, i, ys, j, h => by
    unfold e_wr
    rw [List.length_cons] at h
    rw [h_wr_get l (i + 1) (ys.set i x) j (by rw [List.length_set]; omega)]
    by_cases h1 : j = i
    · subst h1
      rw [if_neg (by omega), if_pos (by simp), List.getElem?_set_self (by omega), Nat.sub_self]
      rfl
    · by_cases h2 : i + 1 ≤ j ∧ j < i + 1 + l.length
      · rw [if_pos h2, if_pos (by simp only [List.length_cons]; omega), show j - i = (j - (i + 1)) + 1 by omega, List.getElem?_cons_succ]
      · rw [if_neg h2, if_neg (by simp only [List.length_cons]; omega), List.getElem?_set_ne (by omega)]
theorem h_acp {n np : Nat} {nst : Bool} {q0 q1 t : Nat} {x y z : Int32} (hc : e_code P k pc = some (.invokestatic n, 3)) (hp : pc + 3 = pc') (hcal : e_cal P k n = some (0, np, 98, nst)) (hr : (Nat.ble 1 (e_rmo P k).1 && Nat.ble 26 (e_rmo P k).2.1) = true) (hl : e_low st = true) (hY0 : Y.1 q0 = some (.inl (false, t))) (hY1 : Y.1 q1 = some (.inl (false, t))) (hro : Nat.ble (e_ro P) q1 = true) (hx : x = 0) (hy : y = 0) (hz : z.toInt = (t : Int)) (kk : h_T P Y k pc' L st (h_cp σ q0 q1 t) Q) : h_T P Y k pc L (.int z :: .int y :: .ref q1 :: .int x :: .ref q0 :: st) σ Q := by
  subst hx
  subst hy
  have hzc : z.toNatClampNeg = t := by
    show z.toInt.toNat = t
    omega
  have hz0 : decide (z < 0) = false := by rw [decide_eq_false_iff_not, h_ilt, h_i0]; omega
  refine h_blt hc hcal (fun lv mem _ hR => ?_) kk
  obtain ⟨a, a1, a2, a3, a4⟩ := hR.arr hY0
  obtain ⟨b, b1, b2, b3, b4⟩ := hR.arr hY1
  have ht : (a.2.drop 0).take t = a.2 := by rw [List.drop_zero, ← a3, List.take_length]
  refine ⟨mem.set q1 (.inl (b.1, e_wr a.2 0 b.2)), ?_, ?_⟩
  · subst hp
    unfold e_bli
    rw [hr]
    have e0 : (0 : Int32).toNatClampNeg = 0 := rfl
    have e1 : decide ((0 : Int32) < 0) = false := rfl
    have e2 : Nat.ble (0 + t) a.2.length = true := by simp [a3]
    have e3 : Nat.ble (0 + t) b.2.length = true := by simp [b3]
    simp only [cond_true, e_acp, a1, b1, a2, b2, e0, e1, hzc, hz0, e2, e3, hro, hl, Bool.not_false, Bool.and_true, ht]
    rfl
  · have hlq : q1 < mem.length := (List.getElem?_eq_some_iff.mp b1).1
    refine ⟨by rw [List.length_set]; exact hR.1, by rw [e_sl_set b1 (by simp [e_sz, e_wr_len])]; exact hR.2.1, fun p y hpy => ?_⟩
    by_cases hpq : p = q1
    · subst hpq
      cases hY1.symm.trans hpy
      refine ⟨_, List.getElem?_set_self hlq, b2, by rw [e_wr_len]; exact b3, fun j w hj => ?_⟩
      have hj : (e_wr a.2 0 b.2)[j]? = some w := hj
      rw [h_wr_get a.2 0 b.2 j (by omega)] at hj
      unfold h_cp
      by_cases hjt : j < t
      · rw [if_pos (by omega), Nat.sub_zero] at hj
        rw [if_pos ⟨rfl, by omega, by omega⟩]
        exact a4 j w hj
      · rw [if_neg (by omega)] at hj
        have := (List.getElem?_eq_some_iff.mp hj).1
        omega
    · obtain ⟨c, c1, c2⟩ := hR.2.2 p y hpy
      refine ⟨c, by rw [List.getElem?_set_ne (Ne.symm hpq)]; exact c1, ?_⟩
      cases y with
      | inl u =>
        cases c with
        | inl b => exact ⟨c2.1, c2.2.1, fun i w hi => by rw [c2.2.2 i w hi]; unfold h_cp; rw [if_neg (fun h => hpq h.1)]⟩
        | inr o => exact c2.elim
      | inr u =>
        cases c with
        | inl b => exact c2.elim
        | inr o => exact ⟨c2.1, c2.2.1, fun i => ⟨(c2.2.2 i).1, fun hi => by
            obtain ⟨w, w1, w2⟩ := (c2.2.2 i).2 hi
            exact ⟨w, w1, by rw [w2]; unfold h_cp; rw [if_neg (fun h => hpq h.1)]⟩⟩⟩
/-- length() and charAt() of a text -/
theorem h_str {n np cd : Nat} {nst : Bool} {q : Nat} {rest : List Value} {x : Int32} {st' : List Value} (hc : e_code P k pc = some (.invokevirtual n, 3)) (hp : pc + 3 = pc') (hcal : e_cal P k n = some (0, np, cd, nst)) (hst : st.drop np = .ref q :: rest) (hx : e_sb P k cd st = some (x, st')) (kk : h_T P Y k pc' L (.int x :: st') σ Q) : h_T P Y k pc L st σ Q := by
  intro lv mem hl hR
  obtain ⟨y, τ, ⟨N, hN⟩, h5⟩ := kk lv mem hl hR
  refine ⟨y, τ, e_Ev.of (x := (.invokevirtual n, 3)) hc rfl ⟨N, ?_⟩, h5⟩
  show e_inv P (e_run P N) k pc lv st mem false n = _
  unfold e_inv
  subst hp
  simp only [hcal, hst, beq_self_eq_true, cond_true, Bool.false_and, cond_false, e_sgo, hx]
  exact hN
end HH
