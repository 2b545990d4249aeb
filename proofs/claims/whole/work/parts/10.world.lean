/-! ONE WORLD of all the cells of the system: 123 cells by their numbers; what each holds of numbers is a function of cell and place; references are fixed -/
abbrev vwCl : List vw_C := [(RX0, TX0, 8), (RX1, TX1, 7), (RX2, TX2, 11), (RX4, TX4, 5), (RX5, TX5, 15), (RX6, TX6, 11), (RX7, TX7, 2), (RX8, TX8, 5), (RX9, TX9, 37)]
abbrev zt_St : Type := Nat → Nat → Int32
abbrev zt_G : Type := (Nat → Nat) × va_G × (ClassId × ClassId × ClassId × ClassId) × Nat
def zt_ad (G : zt_G) : Nat → Nat := G.1
def zt_D (G : zt_G) : va_G := G.2.1
def zt_cI (G : zt_G) : ClassId := G.2.2.1.1
def zt_cZ (G : zt_G) : ClassId := G.2.2.1.2.1
def zt_cO (G : zt_G) : ClassId := G.2.2.1.2.2.1
def zt_cJ (G : zt_G) : ClassId := G.2.2.1.2.2.2
def zt_tp (G : zt_G) : Nat := G.2.2.2
def zt_kdL : List Nat := [7, 6, 11, 5, 3, 9, 9, 9, 9, 3, 9, 9, 9, 9, 5, 3, 9, 9, 9, 9, 3, 9, 9, 9, 9, 5, 3, 9, 9, 9, 9, 3, 9, 9, 9, 9, 5, 3, 9, 9, 9, 9, 3, 9, 9, 9, 9, 5, 3, 9, 9, 9, 9, 3, 9, 9, 9, 9, 5, 3, 9, 9, 9, 9, 3, 9, 9, 9, 9, 1, 9, 9, 9, 9, 9, 3, 9, 9, 9, 9, 4, 2, 9, 9, 9, 9, 9, 9, 9, 9, 9, 0, 0, 0, 8, 9, 9, 9, 9, 10, 9, 9, 9, 9, 9, 9, 9, 9, 9, 9, 9, 9, 9, 9, 9, 9, 9, 9, 9, 9, 9, 9, 12]
def zt_lnL : List Nat := [0, 0, 6, 0, 0, 20, 20, 20, 20, 0, 20, 20, 20, 20, 0, 0, 20, 20, 20, 20, 0, 20, 20, 20, 20, 0, 0, 20, 20, 20, 20, 0, 20, 20, 20, 20, 0, 0, 20, 20, 20, 20, 0, 20, 20, 20, 20, 0, 0, 20, 20, 20, 20, 0, 20, 20, 20, 20, 0, 0, 20, 20, 20, 20, 0, 20, 20, 20, 20, 0, 10, 10, 10, 10, 10, 0, 30, 30, 30, 30, 0, 0, 40, 40, 40, 40, 40, 40, 40, 40, 6, 0, 0, 0, 0, 6, 6, 6, 6, 6, 12, 6, 6, 13, 416, 416, 416, 416, 10, 10, 10, 10, 10, 6, 41, 41, 41, 41, 41, 41, 41, 5, 1]
def zt_kd (k : Nat) : Nat := zt_kdL.getD k 99
def zt_ln (k : Nat) : Nat := zt_lnL.getD k 0
def zt_st (σ : zt_St) (k j : Nat) (x : Int32) : zt_St := fun a b => if a = k ∧ b = j then x else σ a b
def zt_gI (i : Int32) (n : Nat) : Bool := decide (0 ≤ i.toInt) && decide (i.toInt < (n : Int))
def zt_gd {α : Type} (c : Bool) (x : Option α) : Option α := if c = true then x else none
def zt_lt {α β : Type} (a : α) (f : α → Option β) : Option β := f a
def zt_bd {α β : Type} (a : Option α) (f : α → Option β) : Option β := match a with | none => none | some x => f x
theorem zt_gd_some {α : Type} {c : Bool} {x : Option α} {r : α} (h : zt_gd c x = some r) : c = true ∧ x = some r := by
  unfold zt_gd at h
  by_cases hc : c = true
  · rw [if_pos hc] at h; exact ⟨hc, h⟩
  · rw [if_neg hc] at h; cases h
theorem zt_lt_some {α β : Type} {a : α} {f : α → Option β} {r : β} (h : zt_lt a f = some r) : ∃ x, x = a ∧ f x = some r := ⟨a, rfl, h⟩
theorem zt_bd_some {α β : Type} {a : Option α} {f : α → Option β} {r : β} (h : zt_bd a f = some r) : ∃ x, a = some x ∧ f x = some r := by
  cases a with
  | none => cases h
  | some x => exact ⟨x, rfl, h⟩
theorem zt_gI_in {i : Int32} {n : Nat} (h : zt_gI i n = true) : vp_in i n := by
  rw [zt_gI, Bool.and_eq_true, decide_eq_true_eq, decide_eq_true_eq] at h
  exact vp_in_iff.mpr h
def zt_FU : Nat := 5000
theorem zt_nz0 {x : Int32} (h : (!(x == 0)) = true) : ¬ x = 0 := by
  intro e
  rw [e] at h
  exact absurd h (by decide)
def zt_f0 (G : zt_G) (k : Nat) (f : Nat → Int32) : List Value := [.int (f 0), .int (f 1), .int (f 2), .int (f 3), .int (f 4), .int (f 5), .int (f 6), .int (f 7)]
def zt_f1 (G : zt_G) (k : Nat) (f : Nat → Int32) : List Value := [.ref (zt_ad G (k + 1)), .ref (zt_ad G (k + 2)), .ref (zt_ad G (k + 3)), .ref (zt_ad G (k + 4)), .ref (zt_ad G (k + 5)), .int (f 5), .ref (zt_ad G (k + 6))]
def zt_f2 (G : zt_G) (k : Nat) (f : Nat → Int32) : List Value := [.ref (zt_ad G (k + 1)), .ref (zt_ad G (k + 2)), .ref (zt_ad G (k + 3)), .ref (zt_ad G (k + 4)), .ref (zt_ad G (k + 5)), .ref (zt_ad G (k + 6)), .ref (zt_ad G (k + 7)), .ref (zt_ad G (k + 8)), .int (f 8), .int (f 9), .ref (zt_ad G (k + 9))]
def zt_f3 (G : zt_G) (k : Nat) (f : Nat → Int32) : List Value := [.ref (zt_ad G (k + 1)), .ref (zt_ad G (k + 2)), .ref (zt_ad G (k + 3)), .ref (zt_ad G (k + 4)), .int (f 4)]
def zt_f4 (G : zt_G) (k : Nat) (f : Nat → Int32) : List Value := [.ref (zt_ad G 1), .ref (zt_ad G 81), .ref (zt_ad G 91), .int (f 3), .int (f 4), .int (f 5), .int (f 6), .int (f 7), .int (f 8), .int (f 9), .int (f 10), .int (f 11), .int (f 12), .int (f 13), .int (f 14)]
def zt_f5 (G : zt_G) (k : Nat) (f : Nat → Int32) : List Value := [.int (f 0), .int (f 1), .int (f 2), .int (f 3), .int (f 4), .int (f 5), .int (f 6), .int (f 7), .int (f 8), .ref (zt_ad G (k + 1)), .ref (zt_ad G (k + 6))]
def zt_f6 (G : zt_G) (k : Nat) (f : Nat → Int32) : List Value := [.ref (zt_ad G 2), .int (f 1)]
def zt_f7 (G : zt_G) (k : Nat) (f : Nat → Int32) : List Value := [.ref (zt_ad G 1), .ref (zt_ad G 69), .ref (zt_ad G 80), .ref (zt_ad G 92), .ref (zt_ad G 93)]
def zt_f8 (G : zt_G) (k : Nat) (f : Nat → Int32) : List Value := [.int (f 0), .int (f 1), .int (f 2), .ref (zt_ad G 95), .ref (zt_ad G 96), .ref (zt_ad G 97), .ref (zt_ad G 98), .ref (zt_ad G 99), .ref (zt_ad G 100), .ref (zt_ad G 101), .ref (zt_ad G 102), .int (f 11), .ref (zt_ad G 103), .ref (zt_ad G 104), .ref (zt_ad G 105), .ref (zt_ad G 106), .ref (zt_ad G 107), .int (f 17), .ref (zt_ad G 108), .ref (zt_ad G 109), .ref (zt_ad G 110), .ref (zt_ad G 111), .ref (zt_ad G 112), .ref (zt_ad G 113), .int (f 24), .ref (zt_ad G 114), .ref (zt_ad G 115), .ref (zt_ad G 116), .ref (zt_ad G 117), .ref (zt_ad G 118), .ref (zt_ad G 119), .ref (zt_ad G 120), .int (f 32), .int (f 33), .int (f 34), .ref (zt_ad G 121), .int (f 36)]
def zt_ce (G : zt_G) (k : Nat) (f : Nat → Int32) : va_E :=
  if zt_kd k = 0 then .inr (0, zt_f0 G k f) else if zt_kd k = 1 then .inr (1, zt_f1 G k f) else if zt_kd k = 2 then .inr (2, zt_f2 G k f) else if zt_kd k = 3 then .inr (3, zt_f3 G k f) else if zt_kd k = 4 then .inr (4, zt_f4 G k f) else if zt_kd k = 5 then .inr (5, zt_f5 G k f) else if zt_kd k = 6 then .inr (6, zt_f6 G k f) else if zt_kd k = 7 then .inr (7, zt_f7 G k f) else if zt_kd k = 8 then .inr (8, zt_f8 G k f) else if zt_kd k = 9 then .inl (zt_cI G, zt_ln k, .inl f) else if zt_kd k = 10 then .inl (zt_cZ G, zt_ln k, .inl f) else if zt_kd k = 11 then .inl (zt_cO G, 6, .inr (.inr (.inr (.inr (fun j => some (zt_ad G (3 + 11 * j))))))) else .inl (zt_cJ G, 1, .inr (.inl (fun j => (f j).toInt64)))
def zt_ww (G : zt_G) (σ : zt_St) : va_W := (List.range 123).map (fun k => (zt_ad G k, zt_ce G k (σ k)))
def zt_tys (G : zt_G) : List (ClassId × FieldType) := [(zt_cI G, .int), (zt_cZ G, .boolean), (zt_cO G, .object "ZoneTree$Zone"), (zt_cJ G, .long)]
theorem zt_lt123 {k c : Nat} (h : zt_kd k = c) (hc : c < 99) : k < 123 := by
  rcases Nat.lt_or_ge k 123 with q | q
  · exact q
  · have e : zt_kd k = 99 := by
      unfold zt_kd
      rw [List.getD_eq_getElem?_getD, List.getElem?_eq_none (by exact q)]
      rfl
    omega
theorem zt_at {G : zt_G} {σ : zt_St} {k : Nat} (h : k < 123) : (zt_ww G σ)[k]? = some (zt_ad G k, zt_ce G k (σ k)) := by
  unfold zt_ww
  rw [List.getElem?_map, List.getElem?_range h]
  rfl
theorem zt_len {G : zt_G} {σ : zt_St} : (zt_ww G σ).length = 123 := by
  unfold zt_ww
  rw [List.length_map, List.length_range]
theorem zt_set {G : zt_G} {σ σ1 : zt_St} {k : Nat} {e : va_E} (hk : k < 123) (he : zt_ce G k (σ1 k) = e) (ho : ∀ j, j ≠ k → σ1 j = σ j) : (zt_ww G σ).set k (zt_ad G k, e) = zt_ww G σ1 := by
  apply List.ext_getElem?
  intro i
  by_cases hi : i < 123
  · by_cases hik : i = k
    · subst hik
      rw [List.getElem?_set_self (by rw [zt_len]; exact hi), zt_at hi, he]
    · rw [List.getElem?_set_ne (fun q => hik q.symm), zt_at hi, zt_at hi, ho i hik]
  · rw [List.getElem?_eq_none (by rw [List.length_set, zt_len]; omega), List.getElem?_eq_none (by rw [zt_len]; omega)]
theorem zt_st_o {σ : zt_St} {k j : Nat} {x : Int32} : ∀ i, i ≠ k → zt_st σ k j x i = σ i := by
  intro i hi
  funext b
  unfold zt_st
  rw [if_neg (fun q => hi q.1)]
theorem zt_st_s {σ : zt_St} {k j : Nat} {x : Int32} : zt_st σ k j x k = upd (σ k) j x := by
  funext b
  unfold zt_st upd
  by_cases h : b = j
  · rw [if_pos ⟨rfl, h⟩, if_pos h]
  · rw [if_neg (fun q => h q.2), if_neg h]
theorem zt_ce0 {G : zt_G} {k : Nat} {f : Nat → Int32} (h : zt_kd k = 0) : zt_ce G k f = .inr (0, zt_f0 G k f) := by
  unfold zt_ce; rw [if_pos h]
theorem zt_a0 {G : zt_G} {σ : zt_St} {k : Nat} (h : zt_kd k = 0) : (zt_ww G σ)[k]? = some (zt_ad G k, .inr (0, zt_f0 G k (σ k))) := by rw [zt_at (zt_lt123 h (by decide)), zt_ce0 h]
theorem zt_ce1 {G : zt_G} {k : Nat} {f : Nat → Int32} (h : zt_kd k = 1) : zt_ce G k f = .inr (1, zt_f1 G k f) := by
  unfold zt_ce; rw [if_neg (by rw [h]; decide), if_pos h]
theorem zt_a1 {G : zt_G} {σ : zt_St} {k : Nat} (h : zt_kd k = 1) : (zt_ww G σ)[k]? = some (zt_ad G k, .inr (1, zt_f1 G k (σ k))) := by rw [zt_at (zt_lt123 h (by decide)), zt_ce1 h]
theorem zt_ce2 {G : zt_G} {k : Nat} {f : Nat → Int32} (h : zt_kd k = 2) : zt_ce G k f = .inr (2, zt_f2 G k f) := by
  unfold zt_ce; rw [if_neg (by rw [h]; decide), if_neg (by rw [h]; decide), if_pos h]
theorem zt_a2 {G : zt_G} {σ : zt_St} {k : Nat} (h : zt_kd k = 2) : (zt_ww G σ)[k]? = some (zt_ad G k, .inr (2, zt_f2 G k (σ k))) := by rw [zt_at (zt_lt123 h (by decide)), zt_ce2 h]
theorem zt_ce3 {G : zt_G} {k : Nat} {f : Nat → Int32} (h : zt_kd k = 3) : zt_ce G k f = .inr (3, zt_f3 G k f) := by
  unfold zt_ce; rw [if_neg (by rw [h]; decide), if_neg (by rw [h]; decide), if_neg (by rw [h]; decide), if_pos h]
theorem zt_a3 {G : zt_G} {σ : zt_St} {k : Nat} (h : zt_kd k = 3) : (zt_ww G σ)[k]? = some (zt_ad G k, .inr (3, zt_f3 G k (σ k))) := by rw [zt_at (zt_lt123 h (by decide)), zt_ce3 h]
theorem zt_ce4 {G : zt_G} {k : Nat} {f : Nat → Int32} (h : zt_kd k = 4) : zt_ce G k f = .inr (4, zt_f4 G k f) := by
  unfold zt_ce; rw [if_neg (by rw [h]; decide), if_neg (by rw [h]; decide), if_neg (by rw [h]; decide), if_neg (by rw [h]; decide), if_pos h]
theorem zt_a4 {G : zt_G} {σ : zt_St} {k : Nat} (h : zt_kd k = 4) : (zt_ww G σ)[k]? = some (zt_ad G k, .inr (4, zt_f4 G k (σ k))) := by rw [zt_at (zt_lt123 h (by decide)), zt_ce4 h]
theorem zt_ce5 {G : zt_G} {k : Nat} {f : Nat → Int32} (h : zt_kd k = 5) : zt_ce G k f = .inr (5, zt_f5 G k f) := by
  unfold zt_ce; rw [if_neg (by rw [h]; decide), if_neg (by rw [h]; decide), if_neg (by rw [h]; decide), if_neg (by rw [h]; decide), if_neg (by rw [h]; decide), if_pos h]
theorem zt_a5 {G : zt_G} {σ : zt_St} {k : Nat} (h : zt_kd k = 5) : (zt_ww G σ)[k]? = some (zt_ad G k, .inr (5, zt_f5 G k (σ k))) := by rw [zt_at (zt_lt123 h (by decide)), zt_ce5 h]
theorem zt_ce6 {G : zt_G} {k : Nat} {f : Nat → Int32} (h : zt_kd k = 6) : zt_ce G k f = .inr (6, zt_f6 G k f) := by
  unfold zt_ce; rw [if_neg (by rw [h]; decide), if_neg (by rw [h]; decide), if_neg (by rw [h]; decide), if_neg (by rw [h]; decide), if_neg (by rw [h]; decide), if_neg (by rw [h]; decide), if_pos h]
theorem zt_a6 {G : zt_G} {σ : zt_St} {k : Nat} (h : zt_kd k = 6) : (zt_ww G σ)[k]? = some (zt_ad G k, .inr (6, zt_f6 G k (σ k))) := by rw [zt_at (zt_lt123 h (by decide)), zt_ce6 h]
theorem zt_ce7 {G : zt_G} {k : Nat} {f : Nat → Int32} (h : zt_kd k = 7) : zt_ce G k f = .inr (7, zt_f7 G k f) := by
  unfold zt_ce; rw [if_neg (by rw [h]; decide), if_neg (by rw [h]; decide), if_neg (by rw [h]; decide), if_neg (by rw [h]; decide), if_neg (by rw [h]; decide), if_neg (by rw [h]; decide), if_neg (by rw [h]; decide), if_pos h]
theorem zt_a7 {G : zt_G} {σ : zt_St} {k : Nat} (h : zt_kd k = 7) : (zt_ww G σ)[k]? = some (zt_ad G k, .inr (7, zt_f7 G k (σ k))) := by rw [zt_at (zt_lt123 h (by decide)), zt_ce7 h]
theorem zt_ce8 {G : zt_G} {k : Nat} {f : Nat → Int32} (h : zt_kd k = 8) : zt_ce G k f = .inr (8, zt_f8 G k f) := by
  unfold zt_ce; rw [if_neg (by rw [h]; decide), if_neg (by rw [h]; decide), if_neg (by rw [h]; decide), if_neg (by rw [h]; decide), if_neg (by rw [h]; decide), if_neg (by rw [h]; decide), if_neg (by rw [h]; decide), if_neg (by rw [h]; decide), if_pos h]
theorem zt_a8 {G : zt_G} {σ : zt_St} {k : Nat} (h : zt_kd k = 8) : (zt_ww G σ)[k]? = some (zt_ad G k, .inr (8, zt_f8 G k (σ k))) := by rw [zt_at (zt_lt123 h (by decide)), zt_ce8 h]
theorem zt_ce9 {G : zt_G} {k : Nat} {f : Nat → Int32} (h : zt_kd k = 9) : zt_ce G k f = .inl (zt_cI G, zt_ln k, .inl f) := by
  unfold zt_ce; rw [if_neg (by rw [h]; decide), if_neg (by rw [h]; decide), if_neg (by rw [h]; decide), if_neg (by rw [h]; decide), if_neg (by rw [h]; decide), if_neg (by rw [h]; decide), if_neg (by rw [h]; decide), if_neg (by rw [h]; decide), if_neg (by rw [h]; decide), if_pos h]
theorem zt_a9 {G : zt_G} {σ : zt_St} {k : Nat} (h : zt_kd k = 9) : (zt_ww G σ)[k]? = some (zt_ad G k, .inl (zt_cI G, zt_ln k, .inl (σ k))) := by rw [zt_at (zt_lt123 h (by decide)), zt_ce9 h]
theorem zt_ce10 {G : zt_G} {k : Nat} {f : Nat → Int32} (h : zt_kd k = 10) : zt_ce G k f = .inl (zt_cZ G, zt_ln k, .inl f) := by
  unfold zt_ce; rw [if_neg (by rw [h]; decide), if_neg (by rw [h]; decide), if_neg (by rw [h]; decide), if_neg (by rw [h]; decide), if_neg (by rw [h]; decide), if_neg (by rw [h]; decide), if_neg (by rw [h]; decide), if_neg (by rw [h]; decide), if_neg (by rw [h]; decide), if_neg (by rw [h]; decide), if_pos h]
theorem zt_a10 {G : zt_G} {σ : zt_St} {k : Nat} (h : zt_kd k = 10) : (zt_ww G σ)[k]? = some (zt_ad G k, .inl (zt_cZ G, zt_ln k, .inl (σ k))) := by rw [zt_at (zt_lt123 h (by decide)), zt_ce10 h]
theorem zt_ce11 {G : zt_G} {k : Nat} {f : Nat → Int32} (h : zt_kd k = 11) : zt_ce G k f = .inl (zt_cO G, 6, .inr (.inr (.inr (.inr (fun j => some (zt_ad G (3 + 11 * j))))))) := by
  unfold zt_ce; rw [if_neg (by rw [h]; decide), if_neg (by rw [h]; decide), if_neg (by rw [h]; decide), if_neg (by rw [h]; decide), if_neg (by rw [h]; decide), if_neg (by rw [h]; decide), if_neg (by rw [h]; decide), if_neg (by rw [h]; decide), if_neg (by rw [h]; decide), if_neg (by rw [h]; decide), if_neg (by rw [h]; decide), if_pos h]
theorem zt_a11 {G : zt_G} {σ : zt_St} {k : Nat} (h : zt_kd k = 11) : (zt_ww G σ)[k]? = some (zt_ad G k, .inl (zt_cO G, 6, .inr (.inr (.inr (.inr (fun j => some (zt_ad G (3 + 11 * j)))))))) := by rw [zt_at (zt_lt123 h (by decide)), zt_ce11 h]
theorem zt_ce12 {G : zt_G} {k : Nat} {f : Nat → Int32} (h : zt_kd k = 12) : zt_ce G k f = .inl (zt_cJ G, 1, .inr (.inl (fun j => (f j).toInt64))) := by
  unfold zt_ce; rw [if_neg (by rw [h]; decide), if_neg (by rw [h]; decide), if_neg (by rw [h]; decide), if_neg (by rw [h]; decide), if_neg (by rw [h]; decide), if_neg (by rw [h]; decide), if_neg (by rw [h]; decide), if_neg (by rw [h]; decide), if_neg (by rw [h]; decide), if_neg (by rw [h]; decide), if_neg (by rw [h]; decide), if_neg (by rw [h]; decide)]
theorem zt_a12 {G : zt_G} {σ : zt_St} {k : Nat} (h : zt_kd k = 12) : (zt_ww G σ)[k]? = some (zt_ad G k, .inl (zt_cJ G, 1, .inr (.inl (fun j => (σ k j).toInt64)))) := by rw [zt_at (zt_lt123 h (by decide)), zt_ce12 h]
theorem zt_p0_0 {G : zt_G} {σ : zt_St} {k : Nat} (h : zt_kd k = 0) {x : Int32} : (zt_ww G σ).set k (zt_ad G k, .inr (0, (zt_f0 G k (σ k)).set 0 (.int x))) = zt_ww G (zt_st σ k 0 x) := by
  refine zt_set (zt_lt123 h (by decide)) ?_ zt_st_o
  rw [zt_ce0 h, zt_st_s]
  rfl
theorem zt_p0_1 {G : zt_G} {σ : zt_St} {k : Nat} (h : zt_kd k = 0) {x : Int32} : (zt_ww G σ).set k (zt_ad G k, .inr (0, (zt_f0 G k (σ k)).set 1 (.int x))) = zt_ww G (zt_st σ k 1 x) := by
  refine zt_set (zt_lt123 h (by decide)) ?_ zt_st_o
  rw [zt_ce0 h, zt_st_s]
  rfl
theorem zt_p0_2 {G : zt_G} {σ : zt_St} {k : Nat} (h : zt_kd k = 0) {x : Int32} : (zt_ww G σ).set k (zt_ad G k, .inr (0, (zt_f0 G k (σ k)).set 2 (.int x))) = zt_ww G (zt_st σ k 2 x) := by
  refine zt_set (zt_lt123 h (by decide)) ?_ zt_st_o
  rw [zt_ce0 h, zt_st_s]
  rfl
theorem zt_p0_3 {G : zt_G} {σ : zt_St} {k : Nat} (h : zt_kd k = 0) {x : Int32} : (zt_ww G σ).set k (zt_ad G k, .inr (0, (zt_f0 G k (σ k)).set 3 (.int x))) = zt_ww G (zt_st σ k 3 x) := by
  refine zt_set (zt_lt123 h (by decide)) ?_ zt_st_o
  rw [zt_ce0 h, zt_st_s]
  rfl
theorem zt_p0_4 {G : zt_G} {σ : zt_St} {k : Nat} (h : zt_kd k = 0) {x : Int32} : (zt_ww G σ).set k (zt_ad G k, .inr (0, (zt_f0 G k (σ k)).set 4 (.int x))) = zt_ww G (zt_st σ k 4 x) := by
  refine zt_set (zt_lt123 h (by decide)) ?_ zt_st_o
  rw [zt_ce0 h, zt_st_s]
  rfl
theorem zt_p0_5 {G : zt_G} {σ : zt_St} {k : Nat} (h : zt_kd k = 0) {x : Int32} : (zt_ww G σ).set k (zt_ad G k, .inr (0, (zt_f0 G k (σ k)).set 5 (.int x))) = zt_ww G (zt_st σ k 5 x) := by
  refine zt_set (zt_lt123 h (by decide)) ?_ zt_st_o
  rw [zt_ce0 h, zt_st_s]
  rfl
theorem zt_p0_6 {G : zt_G} {σ : zt_St} {k : Nat} (h : zt_kd k = 0) {x : Int32} : (zt_ww G σ).set k (zt_ad G k, .inr (0, (zt_f0 G k (σ k)).set 6 (.int x))) = zt_ww G (zt_st σ k 6 x) := by
  refine zt_set (zt_lt123 h (by decide)) ?_ zt_st_o
  rw [zt_ce0 h, zt_st_s]
  rfl
theorem zt_p0_7 {G : zt_G} {σ : zt_St} {k : Nat} (h : zt_kd k = 0) {x : Int32} : (zt_ww G σ).set k (zt_ad G k, .inr (0, (zt_f0 G k (σ k)).set 7 (.int x))) = zt_ww G (zt_st σ k 7 x) := by
  refine zt_set (zt_lt123 h (by decide)) ?_ zt_st_o
  rw [zt_ce0 h, zt_st_s]
  rfl
theorem zt_p1_5 {G : zt_G} {σ : zt_St} {k : Nat} (h : zt_kd k = 1) {x : Int32} : (zt_ww G σ).set k (zt_ad G k, .inr (1, (zt_f1 G k (σ k)).set 5 (.int x))) = zt_ww G (zt_st σ k 5 x) := by
  refine zt_set (zt_lt123 h (by decide)) ?_ zt_st_o
  rw [zt_ce1 h, zt_st_s]
  rfl
theorem zt_p2_8 {G : zt_G} {σ : zt_St} {k : Nat} (h : zt_kd k = 2) {x : Int32} : (zt_ww G σ).set k (zt_ad G k, .inr (2, (zt_f2 G k (σ k)).set 8 (.int x))) = zt_ww G (zt_st σ k 8 x) := by
  refine zt_set (zt_lt123 h (by decide)) ?_ zt_st_o
  rw [zt_ce2 h, zt_st_s]
  rfl
theorem zt_p2_9 {G : zt_G} {σ : zt_St} {k : Nat} (h : zt_kd k = 2) {x : Int32} : (zt_ww G σ).set k (zt_ad G k, .inr (2, (zt_f2 G k (σ k)).set 9 (.int x))) = zt_ww G (zt_st σ k 9 x) := by
  refine zt_set (zt_lt123 h (by decide)) ?_ zt_st_o
  rw [zt_ce2 h, zt_st_s]
  rfl
theorem zt_p3_4 {G : zt_G} {σ : zt_St} {k : Nat} (h : zt_kd k = 3) {x : Int32} : (zt_ww G σ).set k (zt_ad G k, .inr (3, (zt_f3 G k (σ k)).set 4 (.int x))) = zt_ww G (zt_st σ k 4 x) := by
  refine zt_set (zt_lt123 h (by decide)) ?_ zt_st_o
  rw [zt_ce3 h, zt_st_s]
  rfl
theorem zt_p4_3 {G : zt_G} {σ : zt_St} {k : Nat} (h : zt_kd k = 4) {x : Int32} : (zt_ww G σ).set k (zt_ad G k, .inr (4, (zt_f4 G k (σ k)).set 3 (.int x))) = zt_ww G (zt_st σ k 3 x) := by
  refine zt_set (zt_lt123 h (by decide)) ?_ zt_st_o
  rw [zt_ce4 h, zt_st_s]
  rfl
theorem zt_p4_4 {G : zt_G} {σ : zt_St} {k : Nat} (h : zt_kd k = 4) {x : Int32} : (zt_ww G σ).set k (zt_ad G k, .inr (4, (zt_f4 G k (σ k)).set 4 (.int x))) = zt_ww G (zt_st σ k 4 x) := by
  refine zt_set (zt_lt123 h (by decide)) ?_ zt_st_o
  rw [zt_ce4 h, zt_st_s]
  rfl
theorem zt_p4_5 {G : zt_G} {σ : zt_St} {k : Nat} (h : zt_kd k = 4) {x : Int32} : (zt_ww G σ).set k (zt_ad G k, .inr (4, (zt_f4 G k (σ k)).set 5 (.int x))) = zt_ww G (zt_st σ k 5 x) := by
  refine zt_set (zt_lt123 h (by decide)) ?_ zt_st_o
  rw [zt_ce4 h, zt_st_s]
  rfl
theorem zt_p4_6 {G : zt_G} {σ : zt_St} {k : Nat} (h : zt_kd k = 4) {x : Int32} : (zt_ww G σ).set k (zt_ad G k, .inr (4, (zt_f4 G k (σ k)).set 6 (.int x))) = zt_ww G (zt_st σ k 6 x) := by
  refine zt_set (zt_lt123 h (by decide)) ?_ zt_st_o
  rw [zt_ce4 h, zt_st_s]
  rfl
theorem zt_p4_7 {G : zt_G} {σ : zt_St} {k : Nat} (h : zt_kd k = 4) {x : Int32} : (zt_ww G σ).set k (zt_ad G k, .inr (4, (zt_f4 G k (σ k)).set 7 (.int x))) = zt_ww G (zt_st σ k 7 x) := by
  refine zt_set (zt_lt123 h (by decide)) ?_ zt_st_o
  rw [zt_ce4 h, zt_st_s]
  rfl
theorem zt_p4_8 {G : zt_G} {σ : zt_St} {k : Nat} (h : zt_kd k = 4) {x : Int32} : (zt_ww G σ).set k (zt_ad G k, .inr (4, (zt_f4 G k (σ k)).set 8 (.int x))) = zt_ww G (zt_st σ k 8 x) := by
  refine zt_set (zt_lt123 h (by decide)) ?_ zt_st_o
  rw [zt_ce4 h, zt_st_s]
  rfl
theorem zt_p4_9 {G : zt_G} {σ : zt_St} {k : Nat} (h : zt_kd k = 4) {x : Int32} : (zt_ww G σ).set k (zt_ad G k, .inr (4, (zt_f4 G k (σ k)).set 9 (.int x))) = zt_ww G (zt_st σ k 9 x) := by
  refine zt_set (zt_lt123 h (by decide)) ?_ zt_st_o
  rw [zt_ce4 h, zt_st_s]
  rfl
theorem zt_p4_10 {G : zt_G} {σ : zt_St} {k : Nat} (h : zt_kd k = 4) {x : Int32} : (zt_ww G σ).set k (zt_ad G k, .inr (4, (zt_f4 G k (σ k)).set 10 (.int x))) = zt_ww G (zt_st σ k 10 x) := by
  refine zt_set (zt_lt123 h (by decide)) ?_ zt_st_o
  rw [zt_ce4 h, zt_st_s]
  rfl
theorem zt_p4_11 {G : zt_G} {σ : zt_St} {k : Nat} (h : zt_kd k = 4) {x : Int32} : (zt_ww G σ).set k (zt_ad G k, .inr (4, (zt_f4 G k (σ k)).set 11 (.int x))) = zt_ww G (zt_st σ k 11 x) := by
  refine zt_set (zt_lt123 h (by decide)) ?_ zt_st_o
  rw [zt_ce4 h, zt_st_s]
  rfl
theorem zt_p4_12 {G : zt_G} {σ : zt_St} {k : Nat} (h : zt_kd k = 4) {x : Int32} : (zt_ww G σ).set k (zt_ad G k, .inr (4, (zt_f4 G k (σ k)).set 12 (.int x))) = zt_ww G (zt_st σ k 12 x) := by
  refine zt_set (zt_lt123 h (by decide)) ?_ zt_st_o
  rw [zt_ce4 h, zt_st_s]
  rfl
theorem zt_p4_13 {G : zt_G} {σ : zt_St} {k : Nat} (h : zt_kd k = 4) {x : Int32} : (zt_ww G σ).set k (zt_ad G k, .inr (4, (zt_f4 G k (σ k)).set 13 (.int x))) = zt_ww G (zt_st σ k 13 x) := by
  refine zt_set (zt_lt123 h (by decide)) ?_ zt_st_o
  rw [zt_ce4 h, zt_st_s]
  rfl
theorem zt_p4_14 {G : zt_G} {σ : zt_St} {k : Nat} (h : zt_kd k = 4) {x : Int32} : (zt_ww G σ).set k (zt_ad G k, .inr (4, (zt_f4 G k (σ k)).set 14 (.int x))) = zt_ww G (zt_st σ k 14 x) := by
  refine zt_set (zt_lt123 h (by decide)) ?_ zt_st_o
  rw [zt_ce4 h, zt_st_s]
  rfl
theorem zt_p5_0 {G : zt_G} {σ : zt_St} {k : Nat} (h : zt_kd k = 5) {x : Int32} : (zt_ww G σ).set k (zt_ad G k, .inr (5, (zt_f5 G k (σ k)).set 0 (.int x))) = zt_ww G (zt_st σ k 0 x) := by
  refine zt_set (zt_lt123 h (by decide)) ?_ zt_st_o
  rw [zt_ce5 h, zt_st_s]
  rfl
theorem zt_p5_1 {G : zt_G} {σ : zt_St} {k : Nat} (h : zt_kd k = 5) {x : Int32} : (zt_ww G σ).set k (zt_ad G k, .inr (5, (zt_f5 G k (σ k)).set 1 (.int x))) = zt_ww G (zt_st σ k 1 x) := by
  refine zt_set (zt_lt123 h (by decide)) ?_ zt_st_o
  rw [zt_ce5 h, zt_st_s]
  rfl
theorem zt_p5_2 {G : zt_G} {σ : zt_St} {k : Nat} (h : zt_kd k = 5) {x : Int32} : (zt_ww G σ).set k (zt_ad G k, .inr (5, (zt_f5 G k (σ k)).set 2 (.int x))) = zt_ww G (zt_st σ k 2 x) := by
  refine zt_set (zt_lt123 h (by decide)) ?_ zt_st_o
  rw [zt_ce5 h, zt_st_s]
  rfl
theorem zt_p5_3 {G : zt_G} {σ : zt_St} {k : Nat} (h : zt_kd k = 5) {x : Int32} : (zt_ww G σ).set k (zt_ad G k, .inr (5, (zt_f5 G k (σ k)).set 3 (.int x))) = zt_ww G (zt_st σ k 3 x) := by
  refine zt_set (zt_lt123 h (by decide)) ?_ zt_st_o
  rw [zt_ce5 h, zt_st_s]
  rfl
theorem zt_p5_4 {G : zt_G} {σ : zt_St} {k : Nat} (h : zt_kd k = 5) {x : Int32} : (zt_ww G σ).set k (zt_ad G k, .inr (5, (zt_f5 G k (σ k)).set 4 (.int x))) = zt_ww G (zt_st σ k 4 x) := by
  refine zt_set (zt_lt123 h (by decide)) ?_ zt_st_o
  rw [zt_ce5 h, zt_st_s]
  rfl
theorem zt_p5_5 {G : zt_G} {σ : zt_St} {k : Nat} (h : zt_kd k = 5) {x : Int32} : (zt_ww G σ).set k (zt_ad G k, .inr (5, (zt_f5 G k (σ k)).set 5 (.int x))) = zt_ww G (zt_st σ k 5 x) := by
  refine zt_set (zt_lt123 h (by decide)) ?_ zt_st_o
  rw [zt_ce5 h, zt_st_s]
  rfl
theorem zt_p5_6 {G : zt_G} {σ : zt_St} {k : Nat} (h : zt_kd k = 5) {x : Int32} : (zt_ww G σ).set k (zt_ad G k, .inr (5, (zt_f5 G k (σ k)).set 6 (.int x))) = zt_ww G (zt_st σ k 6 x) := by
  refine zt_set (zt_lt123 h (by decide)) ?_ zt_st_o
  rw [zt_ce5 h, zt_st_s]
  rfl
theorem zt_p5_7 {G : zt_G} {σ : zt_St} {k : Nat} (h : zt_kd k = 5) {x : Int32} : (zt_ww G σ).set k (zt_ad G k, .inr (5, (zt_f5 G k (σ k)).set 7 (.int x))) = zt_ww G (zt_st σ k 7 x) := by
  refine zt_set (zt_lt123 h (by decide)) ?_ zt_st_o
  rw [zt_ce5 h, zt_st_s]
  rfl
theorem zt_p5_8 {G : zt_G} {σ : zt_St} {k : Nat} (h : zt_kd k = 5) {x : Int32} : (zt_ww G σ).set k (zt_ad G k, .inr (5, (zt_f5 G k (σ k)).set 8 (.int x))) = zt_ww G (zt_st σ k 8 x) := by
  refine zt_set (zt_lt123 h (by decide)) ?_ zt_st_o
  rw [zt_ce5 h, zt_st_s]
  rfl
theorem zt_p6_1 {G : zt_G} {σ : zt_St} {k : Nat} (h : zt_kd k = 6) {x : Int32} : (zt_ww G σ).set k (zt_ad G k, .inr (6, (zt_f6 G k (σ k)).set 1 (.int x))) = zt_ww G (zt_st σ k 1 x) := by
  refine zt_set (zt_lt123 h (by decide)) ?_ zt_st_o
  rw [zt_ce6 h, zt_st_s]
  rfl
theorem zt_p8_0 {G : zt_G} {σ : zt_St} {k : Nat} (h : zt_kd k = 8) {x : Int32} : (zt_ww G σ).set k (zt_ad G k, .inr (8, (zt_f8 G k (σ k)).set 0 (.int x))) = zt_ww G (zt_st σ k 0 x) := by
  refine zt_set (zt_lt123 h (by decide)) ?_ zt_st_o
  rw [zt_ce8 h, zt_st_s]
  rfl
theorem zt_p8_1 {G : zt_G} {σ : zt_St} {k : Nat} (h : zt_kd k = 8) {x : Int32} : (zt_ww G σ).set k (zt_ad G k, .inr (8, (zt_f8 G k (σ k)).set 1 (.int x))) = zt_ww G (zt_st σ k 1 x) := by
  refine zt_set (zt_lt123 h (by decide)) ?_ zt_st_o
  rw [zt_ce8 h, zt_st_s]
  rfl
theorem zt_p8_2 {G : zt_G} {σ : zt_St} {k : Nat} (h : zt_kd k = 8) {x : Int32} : (zt_ww G σ).set k (zt_ad G k, .inr (8, (zt_f8 G k (σ k)).set 2 (.int x))) = zt_ww G (zt_st σ k 2 x) := by
  refine zt_set (zt_lt123 h (by decide)) ?_ zt_st_o
  rw [zt_ce8 h, zt_st_s]
  rfl
theorem zt_p8_11 {G : zt_G} {σ : zt_St} {k : Nat} (h : zt_kd k = 8) {x : Int32} : (zt_ww G σ).set k (zt_ad G k, .inr (8, (zt_f8 G k (σ k)).set 11 (.int x))) = zt_ww G (zt_st σ k 11 x) := by
  refine zt_set (zt_lt123 h (by decide)) ?_ zt_st_o
  rw [zt_ce8 h, zt_st_s]
  rfl
theorem zt_p8_17 {G : zt_G} {σ : zt_St} {k : Nat} (h : zt_kd k = 8) {x : Int32} : (zt_ww G σ).set k (zt_ad G k, .inr (8, (zt_f8 G k (σ k)).set 17 (.int x))) = zt_ww G (zt_st σ k 17 x) := by
  refine zt_set (zt_lt123 h (by decide)) ?_ zt_st_o
  rw [zt_ce8 h, zt_st_s]
  rfl
theorem zt_p8_24 {G : zt_G} {σ : zt_St} {k : Nat} (h : zt_kd k = 8) {x : Int32} : (zt_ww G σ).set k (zt_ad G k, .inr (8, (zt_f8 G k (σ k)).set 24 (.int x))) = zt_ww G (zt_st σ k 24 x) := by
  refine zt_set (zt_lt123 h (by decide)) ?_ zt_st_o
  rw [zt_ce8 h, zt_st_s]
  rfl
theorem zt_p8_32 {G : zt_G} {σ : zt_St} {k : Nat} (h : zt_kd k = 8) {x : Int32} : (zt_ww G σ).set k (zt_ad G k, .inr (8, (zt_f8 G k (σ k)).set 32 (.int x))) = zt_ww G (zt_st σ k 32 x) := by
  refine zt_set (zt_lt123 h (by decide)) ?_ zt_st_o
  rw [zt_ce8 h, zt_st_s]
  rfl
theorem zt_p8_33 {G : zt_G} {σ : zt_St} {k : Nat} (h : zt_kd k = 8) {x : Int32} : (zt_ww G σ).set k (zt_ad G k, .inr (8, (zt_f8 G k (σ k)).set 33 (.int x))) = zt_ww G (zt_st σ k 33 x) := by
  refine zt_set (zt_lt123 h (by decide)) ?_ zt_st_o
  rw [zt_ce8 h, zt_st_s]
  rfl
theorem zt_p8_34 {G : zt_G} {σ : zt_St} {k : Nat} (h : zt_kd k = 8) {x : Int32} : (zt_ww G σ).set k (zt_ad G k, .inr (8, (zt_f8 G k (σ k)).set 34 (.int x))) = zt_ww G (zt_st σ k 34 x) := by
  refine zt_set (zt_lt123 h (by decide)) ?_ zt_st_o
  rw [zt_ce8 h, zt_st_s]
  rfl
theorem zt_p8_36 {G : zt_G} {σ : zt_St} {k : Nat} (h : zt_kd k = 8) {x : Int32} : (zt_ww G σ).set k (zt_ad G k, .inr (8, (zt_f8 G k (σ k)).set 36 (.int x))) = zt_ww G (zt_st σ k 36 x) := by
  refine zt_set (zt_lt123 h (by decide)) ?_ zt_st_o
  rw [zt_ce8 h, zt_st_s]
  rfl
theorem zt_p9 {G : zt_G} {σ : zt_St} {k : Nat} (h : zt_kd k = 9) {j : Nat} {x : Int32} : (zt_ww G σ).set k (zt_ad G k, .inl (zt_cI G, zt_ln k, .inl (upd (σ k) j x))) = zt_ww G (zt_st σ k j x) := by
  refine zt_set (zt_lt123 h (by decide)) ?_ zt_st_o
  rw [zt_ce9 h, zt_st_s]
theorem zt_p10 {G : zt_G} {σ : zt_St} {k : Nat} (h : zt_kd k = 10) {j : Nat} {x : Int32} : (zt_ww G σ).set k (zt_ad G k, .inl (zt_cZ G, zt_ln k, .inl (upd (σ k) j x))) = zt_ww G (zt_st σ k j x) := by
  refine zt_set (zt_lt123 h (by decide)) ?_ zt_st_o
  rw [zt_ce10 h, zt_st_s]
theorem zt_p12 {G : zt_G} {σ : zt_St} {k : Nat} (h : zt_kd k = 12) {j : Nat} {x : Int32} : (zt_ww G σ).set k (zt_ad G k, .inl (zt_cJ G, 1, .inr (.inl (vp_updL (fun j => (σ k j).toInt64) j x.toInt64)))) = zt_ww G (zt_st σ k j x) := by
  refine zt_set (zt_lt123 h (by decide)) ?_ zt_st_o
  rw [zt_ce12 h, zt_st_s]
  congr 6
  funext b
  unfold upd vp_updL
  by_cases hb : b = j
  · rw [if_pos hb, if_pos hb]
  · rw [if_neg hb, if_neg hb]
theorem zt_kall (P : Nat → Prop) (h : ∀ k, k < 123 → P k) {k c : Nat} (hk : zt_kd k = c) (hc : c < 99) : P k := h k (zt_lt123 hk hc)
theorem zt_k3_0 {k : Nat} (h : zt_kd k = 3) : zt_kd (k + 1) = 9 := (show ∀ k, k < 123 → zt_kd k = 3 → zt_kd (k + 1) = 9 by decide +kernel) k (zt_lt123 h (by decide)) h
theorem zt_k3_1 {k : Nat} (h : zt_kd k = 3) : zt_kd (k + 2) = 9 := (show ∀ k, k < 123 → zt_kd k = 3 → zt_kd (k + 2) = 9 by decide +kernel) k (zt_lt123 h (by decide)) h
theorem zt_k3_2 {k : Nat} (h : zt_kd k = 3) : zt_kd (k + 3) = 9 := (show ∀ k, k < 123 → zt_kd k = 3 → zt_kd (k + 3) = 9 by decide +kernel) k (zt_lt123 h (by decide)) h
theorem zt_k3_3 {k : Nat} (h : zt_kd k = 3) : zt_kd (k + 4) = 9 := (show ∀ k, k < 123 → zt_kd k = 3 → zt_kd (k + 4) = 9 by decide +kernel) k (zt_lt123 h (by decide)) h
theorem zt_k5_9 {k : Nat} (h : zt_kd k = 5) : zt_kd (k + 1) = 3 := (show ∀ k, k < 123 → zt_kd k = 5 → zt_kd (k + 1) = 3 by decide +kernel) k (zt_lt123 h (by decide)) h
theorem zt_k5_10 {k : Nat} (h : zt_kd k = 5) : zt_kd (k + 6) = 3 := (show ∀ k, k < 123 → zt_kd k = 5 → zt_kd (k + 6) = 3 by decide +kernel) k (zt_lt123 h (by decide)) h
theorem zt_l70 : zt_ln 70 = 10 := rfl
theorem zt_l71 : zt_ln 71 = 10 := rfl
theorem zt_l72 : zt_ln 72 = 10 := rfl
theorem zt_l73 : zt_ln 73 = 10 := rfl
theorem zt_l74 : zt_ln 74 = 10 := rfl
theorem zt_l76 : zt_ln 76 = 30 := rfl
theorem zt_l77 : zt_ln 77 = 30 := rfl
theorem zt_l78 : zt_ln 78 = 30 := rfl
theorem zt_l79 : zt_ln 79 = 30 := rfl
theorem zt_l82 : zt_ln 82 = 40 := rfl
theorem zt_l83 : zt_ln 83 = 40 := rfl
theorem zt_l84 : zt_ln 84 = 40 := rfl
theorem zt_l85 : zt_ln 85 = 40 := rfl
theorem zt_l86 : zt_ln 86 = 40 := rfl
theorem zt_l87 : zt_ln 87 = 40 := rfl
theorem zt_l88 : zt_ln 88 = 40 := rfl
theorem zt_l89 : zt_ln 89 = 40 := rfl
theorem zt_l90 : zt_ln 90 = 6 := rfl
theorem zt_l95 : zt_ln 95 = 6 := rfl
theorem zt_l96 : zt_ln 96 = 6 := rfl
theorem zt_l97 : zt_ln 97 = 6 := rfl
theorem zt_l98 : zt_ln 98 = 6 := rfl
theorem zt_l99 : zt_ln 99 = 6 := rfl
theorem zt_l100 : zt_ln 100 = 12 := rfl
theorem zt_l101 : zt_ln 101 = 6 := rfl
theorem zt_l102 : zt_ln 102 = 6 := rfl
theorem zt_l103 : zt_ln 103 = 13 := rfl
theorem zt_l104 : zt_ln 104 = 416 := rfl
theorem zt_l105 : zt_ln 105 = 416 := rfl
theorem zt_l106 : zt_ln 106 = 416 := rfl
theorem zt_l107 : zt_ln 107 = 416 := rfl
theorem zt_l108 : zt_ln 108 = 10 := rfl
theorem zt_l109 : zt_ln 109 = 10 := rfl
theorem zt_l110 : zt_ln 110 = 10 := rfl
theorem zt_l111 : zt_ln 111 = 10 := rfl
theorem zt_l112 : zt_ln 112 = 10 := rfl
theorem zt_l113 : zt_ln 113 = 6 := rfl
theorem zt_l114 : zt_ln 114 = 41 := rfl
theorem zt_l115 : zt_ln 115 = 41 := rfl
theorem zt_l116 : zt_ln 116 = 41 := rfl
theorem zt_l117 : zt_ln 117 = 41 := rfl
theorem zt_l118 : zt_ln 118 = 41 := rfl
theorem zt_l119 : zt_ln 119 = 41 := rfl
theorem zt_l120 : zt_ln 120 = 41 := rfl
theorem zt_l121 : zt_ln 121 = 5 := rfl
theorem zt_l122 : zt_ln 122 = 1 := rfl
theorem zt_a_70 {G : zt_G} {σ : zt_St} : (zt_ww G σ)[70]? = some (zt_ad G 70, .inl (zt_cI G, 10, .inl (σ 70))) := zt_a9 (k := 70) rfl
theorem zt_p_70 {G : zt_G} {σ : zt_St} {j : Nat} {x : Int32} : (zt_ww G σ).set 70 (zt_ad G 70, .inl (zt_cI G, 10, .inl (upd (σ 70) j x))) = zt_ww G (zt_st σ 70 j x) := zt_p9 (k := 70) rfl
theorem zt_a_71 {G : zt_G} {σ : zt_St} : (zt_ww G σ)[71]? = some (zt_ad G 71, .inl (zt_cI G, 10, .inl (σ 71))) := zt_a9 (k := 71) rfl
theorem zt_p_71 {G : zt_G} {σ : zt_St} {j : Nat} {x : Int32} : (zt_ww G σ).set 71 (zt_ad G 71, .inl (zt_cI G, 10, .inl (upd (σ 71) j x))) = zt_ww G (zt_st σ 71 j x) := zt_p9 (k := 71) rfl
theorem zt_a_72 {G : zt_G} {σ : zt_St} : (zt_ww G σ)[72]? = some (zt_ad G 72, .inl (zt_cI G, 10, .inl (σ 72))) := zt_a9 (k := 72) rfl
theorem zt_p_72 {G : zt_G} {σ : zt_St} {j : Nat} {x : Int32} : (zt_ww G σ).set 72 (zt_ad G 72, .inl (zt_cI G, 10, .inl (upd (σ 72) j x))) = zt_ww G (zt_st σ 72 j x) := zt_p9 (k := 72) rfl
theorem zt_a_73 {G : zt_G} {σ : zt_St} : (zt_ww G σ)[73]? = some (zt_ad G 73, .inl (zt_cI G, 10, .inl (σ 73))) := zt_a9 (k := 73) rfl
theorem zt_p_73 {G : zt_G} {σ : zt_St} {j : Nat} {x : Int32} : (zt_ww G σ).set 73 (zt_ad G 73, .inl (zt_cI G, 10, .inl (upd (σ 73) j x))) = zt_ww G (zt_st σ 73 j x) := zt_p9 (k := 73) rfl
theorem zt_a_74 {G : zt_G} {σ : zt_St} : (zt_ww G σ)[74]? = some (zt_ad G 74, .inl (zt_cI G, 10, .inl (σ 74))) := zt_a9 (k := 74) rfl
theorem zt_p_74 {G : zt_G} {σ : zt_St} {j : Nat} {x : Int32} : (zt_ww G σ).set 74 (zt_ad G 74, .inl (zt_cI G, 10, .inl (upd (σ 74) j x))) = zt_ww G (zt_st σ 74 j x) := zt_p9 (k := 74) rfl
theorem zt_a_76 {G : zt_G} {σ : zt_St} : (zt_ww G σ)[76]? = some (zt_ad G 76, .inl (zt_cI G, 30, .inl (σ 76))) := zt_a9 (k := 76) rfl
theorem zt_p_76 {G : zt_G} {σ : zt_St} {j : Nat} {x : Int32} : (zt_ww G σ).set 76 (zt_ad G 76, .inl (zt_cI G, 30, .inl (upd (σ 76) j x))) = zt_ww G (zt_st σ 76 j x) := zt_p9 (k := 76) rfl
theorem zt_a_77 {G : zt_G} {σ : zt_St} : (zt_ww G σ)[77]? = some (zt_ad G 77, .inl (zt_cI G, 30, .inl (σ 77))) := zt_a9 (k := 77) rfl
theorem zt_p_77 {G : zt_G} {σ : zt_St} {j : Nat} {x : Int32} : (zt_ww G σ).set 77 (zt_ad G 77, .inl (zt_cI G, 30, .inl (upd (σ 77) j x))) = zt_ww G (zt_st σ 77 j x) := zt_p9 (k := 77) rfl
theorem zt_a_78 {G : zt_G} {σ : zt_St} : (zt_ww G σ)[78]? = some (zt_ad G 78, .inl (zt_cI G, 30, .inl (σ 78))) := zt_a9 (k := 78) rfl
theorem zt_p_78 {G : zt_G} {σ : zt_St} {j : Nat} {x : Int32} : (zt_ww G σ).set 78 (zt_ad G 78, .inl (zt_cI G, 30, .inl (upd (σ 78) j x))) = zt_ww G (zt_st σ 78 j x) := zt_p9 (k := 78) rfl
theorem zt_a_79 {G : zt_G} {σ : zt_St} : (zt_ww G σ)[79]? = some (zt_ad G 79, .inl (zt_cI G, 30, .inl (σ 79))) := zt_a9 (k := 79) rfl
theorem zt_p_79 {G : zt_G} {σ : zt_St} {j : Nat} {x : Int32} : (zt_ww G σ).set 79 (zt_ad G 79, .inl (zt_cI G, 30, .inl (upd (σ 79) j x))) = zt_ww G (zt_st σ 79 j x) := zt_p9 (k := 79) rfl
theorem zt_a_82 {G : zt_G} {σ : zt_St} : (zt_ww G σ)[82]? = some (zt_ad G 82, .inl (zt_cI G, 40, .inl (σ 82))) := zt_a9 (k := 82) rfl
theorem zt_p_82 {G : zt_G} {σ : zt_St} {j : Nat} {x : Int32} : (zt_ww G σ).set 82 (zt_ad G 82, .inl (zt_cI G, 40, .inl (upd (σ 82) j x))) = zt_ww G (zt_st σ 82 j x) := zt_p9 (k := 82) rfl
theorem zt_a_83 {G : zt_G} {σ : zt_St} : (zt_ww G σ)[83]? = some (zt_ad G 83, .inl (zt_cI G, 40, .inl (σ 83))) := zt_a9 (k := 83) rfl
theorem zt_p_83 {G : zt_G} {σ : zt_St} {j : Nat} {x : Int32} : (zt_ww G σ).set 83 (zt_ad G 83, .inl (zt_cI G, 40, .inl (upd (σ 83) j x))) = zt_ww G (zt_st σ 83 j x) := zt_p9 (k := 83) rfl
theorem zt_a_84 {G : zt_G} {σ : zt_St} : (zt_ww G σ)[84]? = some (zt_ad G 84, .inl (zt_cI G, 40, .inl (σ 84))) := zt_a9 (k := 84) rfl
theorem zt_p_84 {G : zt_G} {σ : zt_St} {j : Nat} {x : Int32} : (zt_ww G σ).set 84 (zt_ad G 84, .inl (zt_cI G, 40, .inl (upd (σ 84) j x))) = zt_ww G (zt_st σ 84 j x) := zt_p9 (k := 84) rfl
theorem zt_a_85 {G : zt_G} {σ : zt_St} : (zt_ww G σ)[85]? = some (zt_ad G 85, .inl (zt_cI G, 40, .inl (σ 85))) := zt_a9 (k := 85) rfl
theorem zt_p_85 {G : zt_G} {σ : zt_St} {j : Nat} {x : Int32} : (zt_ww G σ).set 85 (zt_ad G 85, .inl (zt_cI G, 40, .inl (upd (σ 85) j x))) = zt_ww G (zt_st σ 85 j x) := zt_p9 (k := 85) rfl
theorem zt_a_86 {G : zt_G} {σ : zt_St} : (zt_ww G σ)[86]? = some (zt_ad G 86, .inl (zt_cI G, 40, .inl (σ 86))) := zt_a9 (k := 86) rfl
theorem zt_p_86 {G : zt_G} {σ : zt_St} {j : Nat} {x : Int32} : (zt_ww G σ).set 86 (zt_ad G 86, .inl (zt_cI G, 40, .inl (upd (σ 86) j x))) = zt_ww G (zt_st σ 86 j x) := zt_p9 (k := 86) rfl
theorem zt_a_87 {G : zt_G} {σ : zt_St} : (zt_ww G σ)[87]? = some (zt_ad G 87, .inl (zt_cI G, 40, .inl (σ 87))) := zt_a9 (k := 87) rfl
theorem zt_p_87 {G : zt_G} {σ : zt_St} {j : Nat} {x : Int32} : (zt_ww G σ).set 87 (zt_ad G 87, .inl (zt_cI G, 40, .inl (upd (σ 87) j x))) = zt_ww G (zt_st σ 87 j x) := zt_p9 (k := 87) rfl
theorem zt_a_88 {G : zt_G} {σ : zt_St} : (zt_ww G σ)[88]? = some (zt_ad G 88, .inl (zt_cI G, 40, .inl (σ 88))) := zt_a9 (k := 88) rfl
theorem zt_p_88 {G : zt_G} {σ : zt_St} {j : Nat} {x : Int32} : (zt_ww G σ).set 88 (zt_ad G 88, .inl (zt_cI G, 40, .inl (upd (σ 88) j x))) = zt_ww G (zt_st σ 88 j x) := zt_p9 (k := 88) rfl
theorem zt_a_89 {G : zt_G} {σ : zt_St} : (zt_ww G σ)[89]? = some (zt_ad G 89, .inl (zt_cI G, 40, .inl (σ 89))) := zt_a9 (k := 89) rfl
theorem zt_p_89 {G : zt_G} {σ : zt_St} {j : Nat} {x : Int32} : (zt_ww G σ).set 89 (zt_ad G 89, .inl (zt_cI G, 40, .inl (upd (σ 89) j x))) = zt_ww G (zt_st σ 89 j x) := zt_p9 (k := 89) rfl
theorem zt_a_90 {G : zt_G} {σ : zt_St} : (zt_ww G σ)[90]? = some (zt_ad G 90, .inl (zt_cI G, 6, .inl (σ 90))) := zt_a9 (k := 90) rfl
theorem zt_p_90 {G : zt_G} {σ : zt_St} {j : Nat} {x : Int32} : (zt_ww G σ).set 90 (zt_ad G 90, .inl (zt_cI G, 6, .inl (upd (σ 90) j x))) = zt_ww G (zt_st σ 90 j x) := zt_p9 (k := 90) rfl
theorem zt_a_95 {G : zt_G} {σ : zt_St} : (zt_ww G σ)[95]? = some (zt_ad G 95, .inl (zt_cI G, 6, .inl (σ 95))) := zt_a9 (k := 95) rfl
theorem zt_p_95 {G : zt_G} {σ : zt_St} {j : Nat} {x : Int32} : (zt_ww G σ).set 95 (zt_ad G 95, .inl (zt_cI G, 6, .inl (upd (σ 95) j x))) = zt_ww G (zt_st σ 95 j x) := zt_p9 (k := 95) rfl
theorem zt_a_96 {G : zt_G} {σ : zt_St} : (zt_ww G σ)[96]? = some (zt_ad G 96, .inl (zt_cI G, 6, .inl (σ 96))) := zt_a9 (k := 96) rfl
theorem zt_p_96 {G : zt_G} {σ : zt_St} {j : Nat} {x : Int32} : (zt_ww G σ).set 96 (zt_ad G 96, .inl (zt_cI G, 6, .inl (upd (σ 96) j x))) = zt_ww G (zt_st σ 96 j x) := zt_p9 (k := 96) rfl
theorem zt_a_97 {G : zt_G} {σ : zt_St} : (zt_ww G σ)[97]? = some (zt_ad G 97, .inl (zt_cI G, 6, .inl (σ 97))) := zt_a9 (k := 97) rfl
theorem zt_p_97 {G : zt_G} {σ : zt_St} {j : Nat} {x : Int32} : (zt_ww G σ).set 97 (zt_ad G 97, .inl (zt_cI G, 6, .inl (upd (σ 97) j x))) = zt_ww G (zt_st σ 97 j x) := zt_p9 (k := 97) rfl
theorem zt_a_98 {G : zt_G} {σ : zt_St} : (zt_ww G σ)[98]? = some (zt_ad G 98, .inl (zt_cI G, 6, .inl (σ 98))) := zt_a9 (k := 98) rfl
theorem zt_p_98 {G : zt_G} {σ : zt_St} {j : Nat} {x : Int32} : (zt_ww G σ).set 98 (zt_ad G 98, .inl (zt_cI G, 6, .inl (upd (σ 98) j x))) = zt_ww G (zt_st σ 98 j x) := zt_p9 (k := 98) rfl
theorem zt_a_99 {G : zt_G} {σ : zt_St} : (zt_ww G σ)[99]? = some (zt_ad G 99, .inl (zt_cZ G, 6, .inl (σ 99))) := zt_a10 (k := 99) rfl
theorem zt_p_99 {G : zt_G} {σ : zt_St} {j : Nat} {x : Int32} : (zt_ww G σ).set 99 (zt_ad G 99, .inl (zt_cZ G, 6, .inl (upd (σ 99) j x))) = zt_ww G (zt_st σ 99 j x) := zt_p10 (k := 99) rfl
theorem zt_a_100 {G : zt_G} {σ : zt_St} : (zt_ww G σ)[100]? = some (zt_ad G 100, .inl (zt_cI G, 12, .inl (σ 100))) := zt_a9 (k := 100) rfl
theorem zt_p_100 {G : zt_G} {σ : zt_St} {j : Nat} {x : Int32} : (zt_ww G σ).set 100 (zt_ad G 100, .inl (zt_cI G, 12, .inl (upd (σ 100) j x))) = zt_ww G (zt_st σ 100 j x) := zt_p9 (k := 100) rfl
theorem zt_a_101 {G : zt_G} {σ : zt_St} : (zt_ww G σ)[101]? = some (zt_ad G 101, .inl (zt_cI G, 6, .inl (σ 101))) := zt_a9 (k := 101) rfl
theorem zt_p_101 {G : zt_G} {σ : zt_St} {j : Nat} {x : Int32} : (zt_ww G σ).set 101 (zt_ad G 101, .inl (zt_cI G, 6, .inl (upd (σ 101) j x))) = zt_ww G (zt_st σ 101 j x) := zt_p9 (k := 101) rfl
theorem zt_a_102 {G : zt_G} {σ : zt_St} : (zt_ww G σ)[102]? = some (zt_ad G 102, .inl (zt_cI G, 6, .inl (σ 102))) := zt_a9 (k := 102) rfl
theorem zt_p_102 {G : zt_G} {σ : zt_St} {j : Nat} {x : Int32} : (zt_ww G σ).set 102 (zt_ad G 102, .inl (zt_cI G, 6, .inl (upd (σ 102) j x))) = zt_ww G (zt_st σ 102 j x) := zt_p9 (k := 102) rfl
theorem zt_a_103 {G : zt_G} {σ : zt_St} : (zt_ww G σ)[103]? = some (zt_ad G 103, .inl (zt_cI G, 13, .inl (σ 103))) := zt_a9 (k := 103) rfl
theorem zt_p_103 {G : zt_G} {σ : zt_St} {j : Nat} {x : Int32} : (zt_ww G σ).set 103 (zt_ad G 103, .inl (zt_cI G, 13, .inl (upd (σ 103) j x))) = zt_ww G (zt_st σ 103 j x) := zt_p9 (k := 103) rfl
theorem zt_a_104 {G : zt_G} {σ : zt_St} : (zt_ww G σ)[104]? = some (zt_ad G 104, .inl (zt_cI G, 416, .inl (σ 104))) := zt_a9 (k := 104) rfl
theorem zt_p_104 {G : zt_G} {σ : zt_St} {j : Nat} {x : Int32} : (zt_ww G σ).set 104 (zt_ad G 104, .inl (zt_cI G, 416, .inl (upd (σ 104) j x))) = zt_ww G (zt_st σ 104 j x) := zt_p9 (k := 104) rfl
theorem zt_a_105 {G : zt_G} {σ : zt_St} : (zt_ww G σ)[105]? = some (zt_ad G 105, .inl (zt_cI G, 416, .inl (σ 105))) := zt_a9 (k := 105) rfl
theorem zt_p_105 {G : zt_G} {σ : zt_St} {j : Nat} {x : Int32} : (zt_ww G σ).set 105 (zt_ad G 105, .inl (zt_cI G, 416, .inl (upd (σ 105) j x))) = zt_ww G (zt_st σ 105 j x) := zt_p9 (k := 105) rfl
theorem zt_a_106 {G : zt_G} {σ : zt_St} : (zt_ww G σ)[106]? = some (zt_ad G 106, .inl (zt_cI G, 416, .inl (σ 106))) := zt_a9 (k := 106) rfl
theorem zt_p_106 {G : zt_G} {σ : zt_St} {j : Nat} {x : Int32} : (zt_ww G σ).set 106 (zt_ad G 106, .inl (zt_cI G, 416, .inl (upd (σ 106) j x))) = zt_ww G (zt_st σ 106 j x) := zt_p9 (k := 106) rfl
theorem zt_a_107 {G : zt_G} {σ : zt_St} : (zt_ww G σ)[107]? = some (zt_ad G 107, .inl (zt_cI G, 416, .inl (σ 107))) := zt_a9 (k := 107) rfl
theorem zt_p_107 {G : zt_G} {σ : zt_St} {j : Nat} {x : Int32} : (zt_ww G σ).set 107 (zt_ad G 107, .inl (zt_cI G, 416, .inl (upd (σ 107) j x))) = zt_ww G (zt_st σ 107 j x) := zt_p9 (k := 107) rfl
theorem zt_a_108 {G : zt_G} {σ : zt_St} : (zt_ww G σ)[108]? = some (zt_ad G 108, .inl (zt_cI G, 10, .inl (σ 108))) := zt_a9 (k := 108) rfl
theorem zt_p_108 {G : zt_G} {σ : zt_St} {j : Nat} {x : Int32} : (zt_ww G σ).set 108 (zt_ad G 108, .inl (zt_cI G, 10, .inl (upd (σ 108) j x))) = zt_ww G (zt_st σ 108 j x) := zt_p9 (k := 108) rfl
theorem zt_a_109 {G : zt_G} {σ : zt_St} : (zt_ww G σ)[109]? = some (zt_ad G 109, .inl (zt_cI G, 10, .inl (σ 109))) := zt_a9 (k := 109) rfl
theorem zt_p_109 {G : zt_G} {σ : zt_St} {j : Nat} {x : Int32} : (zt_ww G σ).set 109 (zt_ad G 109, .inl (zt_cI G, 10, .inl (upd (σ 109) j x))) = zt_ww G (zt_st σ 109 j x) := zt_p9 (k := 109) rfl
theorem zt_a_110 {G : zt_G} {σ : zt_St} : (zt_ww G σ)[110]? = some (zt_ad G 110, .inl (zt_cI G, 10, .inl (σ 110))) := zt_a9 (k := 110) rfl
theorem zt_p_110 {G : zt_G} {σ : zt_St} {j : Nat} {x : Int32} : (zt_ww G σ).set 110 (zt_ad G 110, .inl (zt_cI G, 10, .inl (upd (σ 110) j x))) = zt_ww G (zt_st σ 110 j x) := zt_p9 (k := 110) rfl
theorem zt_a_111 {G : zt_G} {σ : zt_St} : (zt_ww G σ)[111]? = some (zt_ad G 111, .inl (zt_cI G, 10, .inl (σ 111))) := zt_a9 (k := 111) rfl
theorem zt_p_111 {G : zt_G} {σ : zt_St} {j : Nat} {x : Int32} : (zt_ww G σ).set 111 (zt_ad G 111, .inl (zt_cI G, 10, .inl (upd (σ 111) j x))) = zt_ww G (zt_st σ 111 j x) := zt_p9 (k := 111) rfl
theorem zt_a_112 {G : zt_G} {σ : zt_St} : (zt_ww G σ)[112]? = some (zt_ad G 112, .inl (zt_cI G, 10, .inl (σ 112))) := zt_a9 (k := 112) rfl
theorem zt_p_112 {G : zt_G} {σ : zt_St} {j : Nat} {x : Int32} : (zt_ww G σ).set 112 (zt_ad G 112, .inl (zt_cI G, 10, .inl (upd (σ 112) j x))) = zt_ww G (zt_st σ 112 j x) := zt_p9 (k := 112) rfl
theorem zt_a_113 {G : zt_G} {σ : zt_St} : (zt_ww G σ)[113]? = some (zt_ad G 113, .inl (zt_cI G, 6, .inl (σ 113))) := zt_a9 (k := 113) rfl
theorem zt_p_113 {G : zt_G} {σ : zt_St} {j : Nat} {x : Int32} : (zt_ww G σ).set 113 (zt_ad G 113, .inl (zt_cI G, 6, .inl (upd (σ 113) j x))) = zt_ww G (zt_st σ 113 j x) := zt_p9 (k := 113) rfl
theorem zt_a_114 {G : zt_G} {σ : zt_St} : (zt_ww G σ)[114]? = some (zt_ad G 114, .inl (zt_cI G, 41, .inl (σ 114))) := zt_a9 (k := 114) rfl
theorem zt_p_114 {G : zt_G} {σ : zt_St} {j : Nat} {x : Int32} : (zt_ww G σ).set 114 (zt_ad G 114, .inl (zt_cI G, 41, .inl (upd (σ 114) j x))) = zt_ww G (zt_st σ 114 j x) := zt_p9 (k := 114) rfl
theorem zt_a_115 {G : zt_G} {σ : zt_St} : (zt_ww G σ)[115]? = some (zt_ad G 115, .inl (zt_cI G, 41, .inl (σ 115))) := zt_a9 (k := 115) rfl
theorem zt_p_115 {G : zt_G} {σ : zt_St} {j : Nat} {x : Int32} : (zt_ww G σ).set 115 (zt_ad G 115, .inl (zt_cI G, 41, .inl (upd (σ 115) j x))) = zt_ww G (zt_st σ 115 j x) := zt_p9 (k := 115) rfl
theorem zt_a_116 {G : zt_G} {σ : zt_St} : (zt_ww G σ)[116]? = some (zt_ad G 116, .inl (zt_cI G, 41, .inl (σ 116))) := zt_a9 (k := 116) rfl
theorem zt_p_116 {G : zt_G} {σ : zt_St} {j : Nat} {x : Int32} : (zt_ww G σ).set 116 (zt_ad G 116, .inl (zt_cI G, 41, .inl (upd (σ 116) j x))) = zt_ww G (zt_st σ 116 j x) := zt_p9 (k := 116) rfl
theorem zt_a_117 {G : zt_G} {σ : zt_St} : (zt_ww G σ)[117]? = some (zt_ad G 117, .inl (zt_cI G, 41, .inl (σ 117))) := zt_a9 (k := 117) rfl
theorem zt_p_117 {G : zt_G} {σ : zt_St} {j : Nat} {x : Int32} : (zt_ww G σ).set 117 (zt_ad G 117, .inl (zt_cI G, 41, .inl (upd (σ 117) j x))) = zt_ww G (zt_st σ 117 j x) := zt_p9 (k := 117) rfl
theorem zt_a_118 {G : zt_G} {σ : zt_St} : (zt_ww G σ)[118]? = some (zt_ad G 118, .inl (zt_cI G, 41, .inl (σ 118))) := zt_a9 (k := 118) rfl
theorem zt_p_118 {G : zt_G} {σ : zt_St} {j : Nat} {x : Int32} : (zt_ww G σ).set 118 (zt_ad G 118, .inl (zt_cI G, 41, .inl (upd (σ 118) j x))) = zt_ww G (zt_st σ 118 j x) := zt_p9 (k := 118) rfl
theorem zt_a_119 {G : zt_G} {σ : zt_St} : (zt_ww G σ)[119]? = some (zt_ad G 119, .inl (zt_cI G, 41, .inl (σ 119))) := zt_a9 (k := 119) rfl
theorem zt_p_119 {G : zt_G} {σ : zt_St} {j : Nat} {x : Int32} : (zt_ww G σ).set 119 (zt_ad G 119, .inl (zt_cI G, 41, .inl (upd (σ 119) j x))) = zt_ww G (zt_st σ 119 j x) := zt_p9 (k := 119) rfl
theorem zt_a_120 {G : zt_G} {σ : zt_St} : (zt_ww G σ)[120]? = some (zt_ad G 120, .inl (zt_cI G, 41, .inl (σ 120))) := zt_a9 (k := 120) rfl
theorem zt_p_120 {G : zt_G} {σ : zt_St} {j : Nat} {x : Int32} : (zt_ww G σ).set 120 (zt_ad G 120, .inl (zt_cI G, 41, .inl (upd (σ 120) j x))) = zt_ww G (zt_st σ 120 j x) := zt_p9 (k := 120) rfl
theorem zt_a_121 {G : zt_G} {σ : zt_St} : (zt_ww G σ)[121]? = some (zt_ad G 121, .inl (zt_cI G, 5, .inl (σ 121))) := zt_a9 (k := 121) rfl
theorem zt_p_121 {G : zt_G} {σ : zt_St} {j : Nat} {x : Int32} : (zt_ww G σ).set 121 (zt_ad G 121, .inl (zt_cI G, 5, .inl (upd (σ 121) j x))) = zt_ww G (zt_st σ 121 j x) := zt_p9 (k := 121) rfl
def zt_inj (G : zt_G) : Prop := ∀ i j, i < 123 → j < 123 → zt_ad G i = zt_ad G j → i = j
def zt_A (G : zt_G) : Nat → Prop := fun q => ∃ k, k < 123 ∧ q = zt_ad G k
theorem zt_has {G : zt_G} {σ : zt_St} {i : Nat} {q : Nat × va_E} (h : (zt_ww G σ)[i]? = some q) : i < 123 ∧ q.1 = zt_ad G i := by
  have hi : i < 123 := by have := (List.getElem?_eq_some_iff.mp h).1; rw [zt_len] at this; exact this
  rw [zt_at hi] at h
  exact ⟨hi, by rw [← Option.some.inj h]⟩
theorem zt_apart {G : zt_G} {σ : zt_St} (h : zt_inj G) : va_D (zt_A G) (zt_ww G σ) := by
  refine ⟨fun i j p q hp hq e => ?_, fun k q hq => ⟨k, (zt_has hq).1, (zt_has hq).2⟩⟩
  refine h i j (zt_has hp).1 (zt_has hq).1 ?_
  rw [← (zt_has hp).2, ← (zt_has hq).2]; exact e
def zt_nl : List (String × Nat × String × String × String × String) := [("ZoneTree$Zone", 39, "ZoneTree$Records", "count", "I", "ZoneTree"), ("ZoneTree$Zones", 29, "ZoneTree$Zone", "apex", "I", "ZoneTree"), ("ZoneTree$Resolver", 143, "ZoneTree$Zone", "apex", "I", "ZoneTree"), ("ZoneTree", 134, "ZoneTree$Zone", "apex", "I", "ZoneTree"), ("ZoneTree$Zones", 18, "ZoneTree$Zone", "life", "I", "ZoneTree"), ("ZoneTree", 127, "ZoneTree$Zone", "isDead", "Z", "ZoneTree"), ("ZoneTree", 195, "ZoneTree$Zone", "windowFrom", "I", "ZoneTree"), ("ZoneTree", 198, "ZoneTree$Zone", "windowTo", "I", "ZoneTree"), ("ZoneTree$Changes", 40, "ZoneTree$Zone", "records", "LZoneTree$Records;", "ZoneTree"), ("ZoneTree", 111, "ZoneTree$Zone", "records", "LZoneTree$Records;", "ZoneTree"), ("ZoneTree", 58, "ZoneTree$Zones", "count", "I", "ZoneTree"), ("ZoneTree$Resolver", 140, "ZoneTree$Zones", "count", "I", "ZoneTree"), ("ZoneTree", 214, "ZoneTree$Changes", "count", "I", "ZoneTree"), ("ZoneTree$Resolver", 40, "ZoneTree$Answer", "kind", "I", "ZoneTree"), ("ZoneTree$Kept", 57, "ZoneTree$Answer", "kind", "I", "ZoneTree"), ("ZoneTree", 152, "ZoneTree$Answer", "kind", "I", "ZoneTree"), ("ZoneTree$Resolver", 92, "ZoneTree$Answer", "number", "I", "ZoneTree"), ("ZoneTree$Kept", 60, "ZoneTree$Answer", "number", "I", "ZoneTree"), ("ZoneTree$Resolver", 68, "ZoneTree$Answer", "name", "I", "ZoneTree"), ("ZoneTree$Kept", 63, "ZoneTree$Answer", "name", "I", "ZoneTree"), ("ZoneTree$Resolver", 49, "ZoneTree$Answer", "life", "I", "ZoneTree"), ("ZoneTree$Kept", 66, "ZoneTree$Answer", "life", "I", "ZoneTree"), ("ZoneTree$Resolver", 99, "ZoneTree$Answer", "questions", "I", "ZoneTree"), ("ZoneTree", 146, "ZoneTree$Answer", "questions", "I", "ZoneTree"), ("ZoneTree$Resolver", 100, "ZoneTree$Answer", "isOld", "Z", "ZoneTree"), ("ZoneTree", 149, "ZoneTree$Answer", "isOld", "Z", "ZoneTree"), ("ZoneTree$Resolver", 172, "ZoneTree$Answer", "cutZone", "I", "ZoneTree"), ("ZoneTree$Zone", 156, "ZoneTree$Answer", "cutZone", "I", "ZoneTree"), ("ZoneTree$Resolver", 186, "ZoneTree$Answer", "cutTrust", "I", "ZoneTree"), ("ZoneTree$Zone", 159, "ZoneTree$Answer", "cutTrust", "I", "ZoneTree"), ("ZoneTree", 171, "ZoneTree$Resolver", "kept", "LZoneTree$Kept;", "ZoneTree"), ("ZoneTree", 175, "ZoneTree$Resolver", "now", "I", "ZoneTree"), ("ZoneTree", 203, "ZoneTree$Resolver", "anchor", "I", "ZoneTree"), ("ZoneTree", 206, "ZoneTree$Resolver", "worstTrust", "I", "ZoneTree")]
def zt_Nw (U : State) : Prop := ∀ q ∈ zt_nl, va_Nw (.fieldLinkNest q.1 q.2.1 q.2.2.1 q.2.2.2.1 q.2.2.2.2.1 q.2.2.2.2.2) U
theorem zt_Nw.warm {s U : State} (hW : s.WarmedH U.vm) (h : zt_Nw s) : zt_Nw U := fun q hq => va_Nw.warmF hW (h q hq)
theorem zt_Nw.same {u U : State} (e : u.vm = U.vm) (h : zt_Nw u) : zt_Nw U := fun q hq => va_Nw.same rfl e (h q hq)
theorem zt_Nw.use {s : State} {args : Array Value} (h : zt_Nw s) {q : String × Nat × String × String × String × String} (hq : q ∈ zt_nl) : (Cond.fieldLinkNest q.1 q.2.1 q.2.2.1 q.2.2.2.1 q.2.2.2.2.1 q.2.2.2.2.2).before args s = true := va_Nw.use rfl (h q hq)
def zt_pw (j : Nat) : Int32 := ([1, 10, 100, 1000, 10000] : List Int32).getD j 0
def zt_Sf (G : zt_G) (U : State) (H : Heap) : Prop := va_Z "ZoneTree$Names" "POWERS" "[I" (.ref (zt_tp G)) (zt_A G) U H ∧ va_T .int (zt_tp G) 5 (fun j => .int (zt_pw j)) (zt_A G) U H
def zt_B (G : zt_G) (σ : zt_St) (U : State) : Prop := zt_inj G ∧ va_P (zt_D G) vwCl (zt_ww G σ) U.heap ∧ va_K (zt_D G) vwCl (zt_tys G) U ∧ zt_Nw U ∧ zt_Sf G U U.heap
def zt_E (G : zt_G) (s : State) : Prop := zt_inj G ∧ va_K (zt_D G) vwCl (zt_tys G) s ∧ zt_Nw s ∧ zt_Sf G s s.heap
theorem zt_B.env {G : zt_G} {σ : zt_St} {s : State} (h : zt_B G σ s) : zt_E G s := ⟨h.1, h.2.2.1, h.2.2.2.1, h.2.2.2.2⟩
theorem zt_B.P {G : zt_G} {σ : zt_St} {t : State} {H : Heap} (h : zt_B G σ t) (ht : t.heap = H) : va_P (zt_D G) vwCl (zt_ww G σ) H := by rw [← ht]; exact h.2.1
theorem zt_Sf.go {G : zt_G} {s U : State} {H : Heap} (hvm : s.vm.Alike U.vm) (h : zt_Sf G s s.heap) (hq : ∀ a : Nat, a < s.heap.size → ¬ zt_A G a → H[a]? = s.heap[a]?) : zt_Sf G U H := ⟨va_Z.moved hvm (va_Z.kept h.1 hq), va_T.moved hvm (va_T.kept h.2 hq)⟩
theorem zt_go {G : zt_G} {σ : zt_St} {s U : State} {H : Heap} {locs : List Loc} {A : Nat → Prop} (hE : zt_E G s) (hP : va_P (zt_D G) vwCl (zt_ww G σ) H) (hS : va_S A s.heap H locs) (hA : ∀ a : Nat, a < s.heap.size → A a → zt_A G a) (hU : U.heap = H) (hW : s.WarmedH U.vm) : zt_B G σ U := by
  refine ⟨hE.1, by rw [hU]; exact hP, va_K.moved hW.alike hE.2.1, zt_Nw.warm hW hE.2.2.1, ?_⟩
  rw [hU]
  exact zt_Sf.go hW.alike hE.2.2.2 (fun a h1 h2 => hS.2.1 a h1 (fun q => h2 (hA a h1 q)))
theorem zt_id {G : zt_G} {s : State} : ∀ a : Nat, a < s.heap.size → zt_A G a → zt_A G a := fun _ _ h => h
theorem zt_blind {G : zt_G} {σ : zt_St} {av : List Value} : FrameBlind (va_Pc av (zt_B G σ)) := fun a U g mk q => ⟨q.1, q.2.1, q.2.2.1, va_K.moved (u := U) (U := U.calling g mk a) (Vm.Alike.refl U.vm) q.2.2.2.1, zt_Nw.same (u := U) (U := U.calling g mk a) rfl q.2.2.2.2.1, va_Z.moved (u := U) (U := U.calling g mk a) (Vm.Alike.refl U.vm) q.2.2.2.2.2.1, va_T.moved (u := U) (U := U.calling g mk a) (Vm.Alike.refl U.vm) q.2.2.2.2.2.2⟩
abbrev zt_R (fr lo : Nat) : Room := { frames := fr, cells := 0, slots := 0, locals := lo }
abbrev zt_Ci (G : zt_G) (r : Int32) (σ1 : zt_St) : Array Value → State → Outcome → State → Prop := va_Qi (fun (r1 : Int32) (u : zt_St) => r1 = r ∧ u = σ1) (fun u t => zt_B G u t) (zt_A G)
abbrev zt_Cv (G : zt_G) (σ1 : zt_St) : Array Value → State → Outcome → State → Prop := va_Qv (fun (u : zt_St) => u = σ1) (fun u t => zt_B G u t) (zt_A G)
abbrev zt_Cr (G : zt_G) (r : Nat) (σ1 : zt_St) : Array Value → State → Outcome → State → Prop := va_Qr (fun (u : zt_St) => u = σ1) (fun u a t => a = zt_ad G r ∧ zt_B G u t) (zt_A G)
abbrev zt_Mi (l : Launch) (G : zt_G) (y : MethodName) (ws : List Cond) (fr lo : Nat) (av : List Value) (σ : zt_St) (r : Int32) (σ1 : zt_St) : Prop := Met l y ws (zt_R fr lo) (va_Pc av (zt_B G σ)) (zt_Ci G r σ1) 0 0 (zt_A G)
abbrev zt_Mv (l : Launch) (G : zt_G) (y : MethodName) (ws : List Cond) (fr lo : Nat) (av : List Value) (σ : zt_St) (σ1 : zt_St) : Prop := Met l y ws (zt_R fr lo) (va_Pc av (zt_B G σ)) (zt_Cv G σ1) 0 0 (zt_A G)
abbrev zt_Mr (l : Launch) (G : zt_G) (y : MethodName) (ws : List Cond) (fr lo : Nat) (av : List Value) (σ : zt_St) (r : Nat) (σ1 : zt_St) : Prop := Met l y ws (zt_R fr lo) (va_Pc av (zt_B G σ)) (zt_Cr G r σ1) 0 0 (zt_A G)
theorem zt_nz {x c : Int32} (n : Int) (hc : c.toInt = n) (h : ¬ x = c) : x.toInt ≠ n := fun q => h (Int32.toInt_inj.mp (q.trans hc.symm))
theorem zt_bn {x : Int32} (h : (x == 0 || x == 1) = true) : narrow .boolean (.int x) = .int x ∧ fits .boolean (.int x) = true := by
  rcases Bool.or_eq_true _ _ ▸ h with q | q
  · rw [eq_of_beq q]; exact ⟨by decide +kernel, by decide +kernel⟩
  · rw [eq_of_beq q]; exact ⟨by decide +kernel, by decide +kernel⟩
theorem zt_bv {x : Int32} (h : (x == 0 || x == 1) = true) : vp_nar .boolean x = x := by
  rcases Bool.or_eq_true _ _ ▸ h with q | q
  · rw [eq_of_beq q]; decide +kernel
  · rw [eq_of_beq q]; decide +kernel
