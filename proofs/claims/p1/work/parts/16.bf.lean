/-! ALL PICTURES A NUMBER OF STEPS ON -/
def a_exp (P : e_Pg) (lc ls : Nat) : List a_S → Option (List a_S)
  | [] => some []
  | S :: l => match a_next P lc ls S, a_exp P lc ls l with
    | some a, some b => some (a ++ b)
    | _, _ => none
noncomputable def a_bf (P : e_Pg) (lc ls n : Nat) (l : List a_S) : Option (List a_S) := Nat.rec (motive := fun _ => Option (List a_S)) (some l) (fun _ x => match x with
  | some l => a_exp P lc ls l
  | none => none) n
theorem a_bf_succ (P : e_Pg) (lc ls n : Nat) (l : List a_S) : a_bf P lc ls (n + 1) l = (match a_bf P lc ls n l with
  | some l => a_exp P lc ls l
  | none => none) := rfl
def a_Y (lc ls : Nat) (y : Option Value × List e_C) : Prop := y.1 = some (.int 1) ∧ y.2.length ≤ lc ∧ e_sl y.2 ≤ ls
/-- whatever a picture is of comes to 1 -/
def a_good (P : e_Pg) (lc ls : Nat) (ρ : Nat → Int32) (S : a_S) : Prop := ∀ C : e_Cf, a_rS ρ S C → e_Stk P (a_Y lc ls) C.2.2 C.1 C.2.1
theorem a_good_run {P : e_Pg} {lc ls n : Nat} {S : a_S} (ρ : Nat → Int32) (h : a_run P lc ls n S = true) : a_good P lc ls ρ S := fun C hC => a_sound n S C h hC
theorem a_good_next {P : e_Pg} {lc ls : Nat} {ρ : Nat → Int32} {S : a_S} {L : List a_S} (h : a_next P lc ls S = some L) (hg : ∀ S' ∈ L, a_good P lc ls ρ S') : a_good P lc ls ρ S := by
  intro C hC
  obtain ⟨x, hc, ho, hx⟩ := a_next_ok hC h
  rcases hx with (⟨S', h1, h2⟩ | ⟨C', h0, S', h1, h2⟩) | ⟨h0, h1, h2, h3⟩
  · exact hg S' h1 C h2
  · exact e_nx_ok hc ho h0 (hg S' h1 C' h2)
  · obtain ⟨mem', f, gs'⟩ := C
    dsimp only at h0 h1 h2 h3 hc ⊢
    subst h0
    exact ⟨_, e_Ev.of hc ho ⟨0, h1 _⟩, rfl, h2, h3⟩
theorem a_good_exp {P : e_Pg} {lc ls : Nat} {ρ : Nat → Int32} : ∀ {l L : List a_S}, a_exp P lc ls l = some L → (∀ S' ∈ L, a_good P lc ls ρ S') → ∀ S ∈ l, a_good P lc ls ρ S
  | [], _, _, _ => fun S h => absurd h List.not_mem_nil
  | S0 :: l, L, h, hg => by
    unfold a_exp at h
    split at h
    · next a b ha hb =>
      cases h
      intro S hS
      rcases List.mem_cons.mp hS with rfl | hS
      · exact a_good_next ha (fun S' h' => hg S' (List.mem_append_left _ h'))
      · exact a_good_exp hb (fun S' h' => hg S' (List.mem_append_right _ h')) S hS
    · cases h
theorem a_good_bf {P : e_Pg} {lc ls : Nat} {ρ : Nat → Int32} {l : List a_S} : ∀ {n : Nat} {L : List a_S}, a_bf P lc ls n l = some L → (∀ S' ∈ L, a_good P lc ls ρ S') → ∀ S ∈ l, a_good P lc ls ρ S
  | 0, L, h, hg => by cases h; exact hg
  | n + 1, L, h, hg => by
    rw [a_bf_succ] at h
    split at h
    · next l1 h1 => exact a_good_bf h1 (a_good_exp h hg)
    · cases h
/-- the pictures by their places -/
theorem a_good_at {P : e_Pg} {lc ls n : Nat} {ρ : Nat → Int32} {l : List a_S} {d : a_S} (N : Nat) (h : (a_bf P lc ls n l).isSome = true) (hl : Nat.ble ((a_bf P lc ls n l).getD []).length N = true) (hg : ∀ i, i < N → a_good P lc ls ρ (((a_bf P lc ls n l).getD []).getD i d)) : ∀ S ∈ l, a_good P lc ls ρ S := by
  obtain ⟨L, hL⟩ := Option.isSome_iff_exists.mp h
  refine a_good_bf hL (fun S' hS' => ?_)
  obtain ⟨i, hi⟩ := List.getElem?_of_mem hS'
  have hlt : i < L.length := (List.getElem?_eq_some_iff.mp hi).1
  have hN : L.length ≤ N := by
    rw [hL] at hl
    exact Nat.le_of_ble_eq_true hl
  have := hg i (by omega)
  rw [hL] at this
  have e : (Option.getD (some L) []).getD i d = S' := by
    show L.getD i d = S'
    rw [List.getD_eq_getElem?_getD, hi]
    rfl
  rw [e] at this
  exact this
