/-! the reference's neighbour, and that both are the same extremum -/
theorem zs_ngi {rc : zt_St → Int32 → Int32 → Int32 → Int32 → Int32 → Option (Int32 × zt_St)} {n : Nat} {σ : zt_St} {a b c d e f : Int32} : f_X9_neighbour_54 rc (n + 1) σ a b c d e f = f_X9_neighbour_54b rc (f_X9_neighbour_54 rc n) σ a b c d e f := rfl
theorem z9ngi {σ : zt_St} {s i p : Nat} {R : zR} {beh : Bool} {rc : zt_St → Int32 → Int32 → Int32 → Int32 → Int32 → Option (Int32 × zt_St)} (hk : zM s R) (hR : zRM σ s R) (hb : zRB R) (hi : i < R.1) (hp : p < 10000) : ∀ d best m, d ≤ zfg (zbs (zP R i)) + 1 → zbb best → f_X9_neighbour_54 rc (m + d + 1) σ (nI s) (nI p) (zb beh) (oI 0 best) (nI (32 * s + i)) (nI (zfg (zbs (zP R i)) + 1 - d)) = rc σ (nI s) (nI p) (zb beh) (oI 0 (((zil d (zbs (zP R i))).reverse ++ [zP R i]).foldl (znr R beh p) best)) (nI (32 * s + (i + 1))) := by
  have b := hb i hi
  have q := hR.2 i hi
  have hl := zbs_lt b.1
  have h4 := zfg4 (zbs (zP R i))
  obtain ⟨hs, h30⟩ := hk
  intro d
  induction d with
  | zero =>
    intro best m h hbb
    rw [zs_ngi]
    unfold f_X9_neighbour_54b
    rw [zgd_i (show 32 * s + i < 416 by omega) (by decide), nI_clamp (show 32 * s + i < 2 ^ 31 by omega), q.1, z9bs (by omega), zbd_s, z9fg hl, zbd_s, if_pos (nI_lt (by omega) (by omega)), zgd_i (show 32 * s + i < 416 by omega) (by decide), z9ner ⟨hs, h30⟩ hR hb hp b.1 hbb, zbd_s, nI_1]
    rfl
  | succ d ih =>
    intro best m h hbb
    have hx : zhd (zbs (zP R i)) (zfg (zbs (zP R i)) + 1 - (d + 1)) = zbs (zP R i) / ztn d := by
      unfold zhd
      rw [show zfg (zbs (zP R i)) - (zfg (zbs (zP R i)) + 1 - (d + 1)) = d by omega]
    have hx2 : zbs (zP R i) / ztn d < 10000 := Nat.lt_of_le_of_lt (Nat.div_le_self _ _) hl
    have i0 := ih (znr R beh p best (zbs (zP R i) / ztn d)) m (by omega) (znr_b hbb hx2)
    rw [show zfg (zbs (zP R i)) + 1 - d = zfg (zbs (zP R i)) + 1 - (d + 1) + 1 by omega] at i0
    rw [show m + (d + 1) + 1 = (m + d + 1) + 1 from rfl, zs_ngi, zil_l d _ (by omega), List.reverse_append]
    unfold f_X9_neighbour_54b
    rw [zgd_i (show 32 * s + i < 416 by omega) (by decide), nI_clamp (show 32 * s + i < 2 ^ 31 by omega), q.1, z9bs (by omega), zbd_s, z9fg hl, zbd_s, if_neg (nI_nlt (by omega) (by omega)), zgd_i (show 32 * s + i < 416 by omega) (by decide), zbd_s, z9hd hl (by omega), zbd_s, hx, z9ner ⟨hs, h30⟩ hR hb hp hx2 hbb, zbd_s, nI_1, i0]
    rfl
theorem zs_ngo {n : Nat} {σ : zt_St} {a b c d e : Int32} : f_X9_neighbour_27 (n + 1) σ a b c d e = f_X9_neighbour_27b (f_X9_neighbour_27 n) σ a b c d e := rfl
theorem z9ngo {σ : zt_St} {z a p : Nat} {R : zR} {beh : Bool} (hz : z < 6) (h30 : R.1 ≤ 30) (hR : zRM σ z R) (hb : zRB R) (ha : σ 95 z = nI a) (ha2 : a < 10000) (hp : p < 10000) (hu : ∀ i, i < R.1 → zun (zbs (zP R i)) a = true) : ∀ d i best m, i + d = R.1 → zbb best → f_X9_neighbour_27 (m + d + 1) σ (nI z) (nI p) (zb beh) (oI 0 best) (nI (32 * z + i)) = some (oI 0 ((zml R a d i).foldl (znr R beh p) best), σ) := by
  have hk : zM z R := ⟨by omega, h30⟩
  intro d
  induction d with
  | zero =>
    intro i best m h hbb
    rw [zs_ngo]
    unfold f_X9_neighbour_27b
    rw [zgd_i (show z < 13 by omega) (by omega), nI_clamp (show z < 2 ^ 31 by omega), hR.1, zl_32, pk_mul, nI_add, if_pos (nI_le (by omega) (by omega))]
    rfl
  | succ d ih =>
    intro i best m h hbb
    have b := hb i (by omega)
    have hl := zbs_lt b.1
    have h4 := zfg4 (zbs (zP R i))
    have hf := zun_fl hl (hu i (by omega))
    have w := @z9ngi σ z i p R beh (f_X9_neighbour_27 (m + d + 1)) hk hR hb (by omega) hp (zfg (zbs (zP R i)) - zfg a + 1) best (4999 - (zfg (zbs (zP R i)) - zfg a + 1)) (by omega) hbb
    rw [show zfg (zbs (zP R i)) + 1 - (zfg (zbs (zP R i)) - zfg a + 1) = zfg a by omega] at w
    have hbb2 : zbb (((zil (zfg (zbs (zP R i)) - zfg a + 1) (zbs (zP R i))).reverse ++ [zP R i]).foldl (znr R beh p) best) := znr_fb _ _ hbb (fun x hx => by
      rw [List.mem_append, List.mem_reverse, List.mem_singleton] at hx
      rcases hx with hx | hx
      · have := zil_b _ _ _ hx
        omega
      · omega)
    rw [show m + (d + 1) + 1 = (m + d + 1) + 1 from rfl, zs_ngo, zml_s, List.foldl_append]
    unfold f_X9_neighbour_27b
    rw [zgd_i (show z < 13 by omega) (by omega), nI_clamp (show z < 2 ^ 31 by omega), hR.1, zl_32, pk_mul, nI_add, if_neg (nI_ge (by omega) (by omega)), zgd_i hz (by omega), ha, z9fg ha2, zbd_s, zfu (zfg (zbs (zP R i)) - zfg a + 1) (by omega), w, ih (i + 1) _ m (by omega) hbb2]
def zkk (R : zR) (beh : Bool) (p x : Nat) : Bool := zow R x && (decide (zod p < zod x) == beh)
def zke (beh : Bool) (b x : Nat) : Prop := (beh = true → zod b ≤ zod x) ∧ (beh = false → zod x ≤ zod b)
theorem zke_r {beh : Bool} {b : Nat} : zke beh b b := ⟨fun _ => Nat.le_refl _, fun _ => Nat.le_refl _⟩
theorem zke_t {beh : Bool} {a b c : Nat} (h : zke beh a b) (h2 : zke beh b c) : zke beh a c := ⟨fun e => Nat.le_trans (h.1 e) (h2.1 e), fun e => Nat.le_trans (h2.2 e) (h.2 e)⟩
theorem znr_k {R : zR} {beh : Bool} {p : Nat} : ∀ (l : List Nat) (best : Option Nat), (l.foldl (znr R beh p) best = none → best = none ∧ ∀ x, x ∈ l → zkk R beh p x = false) ∧ (∀ b, l.foldl (znr R beh p) best = some b → (best = some b ∨ (b ∈ l ∧ zkk R beh p b = true)) ∧ (∀ x, x ∈ l → zkk R beh p x = true → zke beh b x) ∧ (∀ b0, best = some b0 → zke beh b b0)) := by
  intro l
  induction l with
  | nil =>
    intro best
    refine ⟨fun h => ⟨h, fun x hx => nomatch hx⟩, fun b h => ⟨Or.inl h, fun x hx => (nomatch hx), fun b0 h0 => ?_⟩⟩
    have h : best = some b := h
    rw [h] at h0
    cases h0
    exact zke_r
  | cons y l ih =>
    intro best
    have w := ih (znr R beh p best y)
    show (l.foldl (znr R beh p) (znr R beh p best y) = none → _) ∧ (∀ b, l.foldl (znr R beh p) (znr R beh p best y) = some b → _)
    by_cases c : zkk R beh p y = true
    · have hy : ∃ b1, znr R beh p best y = some b1 ∧ (b1 = y ∨ best = some b1) ∧ zke beh b1 y ∧ ∀ b0, best = some b0 → zke beh b1 b0 := by
        have e : znr R beh p best y = znb beh best y := if_pos c
        rw [e]
        cases best with
        | none => exact ⟨y, rfl, Or.inl rfl, zke_r, fun b0 h0 => nomatch h0⟩
        | some b0 =>
          show ∃ b1, (if (decide (zod y < zod b0) == beh) = true then some y else some b0) = some b1 ∧ _
          by_cases c2 : zod y < zod b0
          · rw [decide_eq_true c2]
            cases beh with
            | true => exact ⟨y, rfl, Or.inl rfl, zke_r, fun b h => by cases h; exact ⟨fun _ => by omega, fun e => nomatch e⟩⟩
            | false => rw [if_neg (by decide)]; exact ⟨b0, rfl, Or.inr rfl, ⟨fun e => (nomatch e), fun _ => by omega⟩, fun b h => by cases h; exact zke_r⟩
          · rw [decide_eq_false c2]
            cases beh with
            | true => rw [if_neg (by decide)]; exact ⟨b0, rfl, Or.inr rfl, ⟨fun _ => by omega, fun e => nomatch e⟩, fun b h => by cases h; exact zke_r⟩
            | false => exact ⟨y, rfl, Or.inl rfl, zke_r, fun b h => by cases h; exact ⟨fun e => (nomatch e), fun _ => by omega⟩⟩
      obtain ⟨b1, e1, e2, e3, e4⟩ := hy
      rw [e1] at w ⊢
      refine ⟨fun h => (nomatch (w.1 h).1), fun b h => ?_⟩
      obtain ⟨w1, w2, w3⟩ := w.2 b h
      have wb := w3 b1 rfl
      refine ⟨?_, fun x hx hk => ?_, fun b0 h0 => zke_t wb (e4 b0 h0)⟩
      · rcases w1 with w1 | w1
        · cases w1
          rcases e2 with e2 | e2
          · rw [e2]; exact Or.inr ⟨List.mem_cons_self, c⟩
          · exact Or.inl e2
        · exact Or.inr ⟨List.mem_cons_of_mem _ w1.1, w1.2⟩
      · rcases List.mem_cons.mp hx with hx | hx
        · rw [hx]; exact zke_t wb e3
        · exact w2 x hx hk
    · have e : znr R beh p best y = best := if_neg c
      rw [e] at w ⊢
      refine ⟨fun h => ⟨(w.1 h).1, fun x hx => ?_⟩, fun b h => ?_⟩
      · rcases List.mem_cons.mp hx with hx | hx
        · rw [hx]
          cases q : zkk R beh p y with
          | true => exact absurd q c
          | false => rfl
        · exact (w.1 h).2 x hx
      · obtain ⟨w1, w2, w3⟩ := w.2 b h
        refine ⟨?_, fun x hx hk => ?_, w3⟩
        · rcases w1 with w1 | w1
          · exact Or.inl w1
          · exact Or.inr ⟨List.mem_cons_of_mem _ w1.1, w1.2⟩
        · rcases List.mem_cons.mp hx with hx | hx
          · rw [hx] at hk; exact absurd hk c
          · exact w2 x hx hk
theorem znr_u {R : zR} {beh : Bool} {p : Nat} {l m : List Nat} (h : ∀ x, x ∈ l ↔ x ∈ m) (hl : ∀ x, x ∈ l → x < 10000) : l.foldl (znr R beh p) none = m.foldl (znr R beh p) none := by
  have a := @znr_k R beh p l none
  have b := @znr_k R beh p m none
  cases e1 : l.foldl (znr R beh p) none with
  | none =>
    cases e2 : m.foldl (znr R beh p) none with
    | none => rfl
    | some y =>
      rcases (b.2 y e2).1 with w | w
      · cases w
      · have := (a.1 e1).2 y ((h y).mpr w.1)
        rw [w.2] at this
        cases this
  | some x =>
    obtain ⟨x1, x2, _⟩ := a.2 x e1
    rcases x1 with x1 | x1
    · cases x1
    cases e2 : m.foldl (znr R beh p) none with
    | none =>
      have := (b.1 e2).2 x ((h x).mp x1.1)
      rw [x1.2] at this
      cases this
    | some y =>
      obtain ⟨y1, y2, _⟩ := b.2 y e2
      rcases y1 with y1 | y1
      · cases y1
      have k1 := x2 y ((h y).mpr y1.1) y1.2
      have k2 := y2 x ((h x).mp x1.1) x1.2
      have : zod x = zod y := by
        cases beh with
        | true => exact Nat.le_antisymm (k1.1 rfl) (k2.1 rfl)
        | false => exact Nat.le_antisymm (k2.2 rfl) (k1.2 rfl)
      rw [zod_i (hl x x1.1) (hl y ((h y).mpr y1.1)) this]
theorem znl_b {R : zR} {a : Nat} (hb : zRB R) : ∀ d i x, i + d ≤ R.1 → x ∈ znl R a d i → x < 10000 := by
  intro d
  induction d with
  | zero => intro i x _ h; cases h
  | succ d ih =>
    intro i x h hx
    have b := hb i (by omega)
    rw [znl_s, List.mem_append, List.mem_cons] at hx
    rcases hx with (hx | hx) | hx
    · omega
    · have := zil_b _ _ _ hx
      have := zbs_lt b.1
      omega
    · exact ih (i + 1) x (by omega) hx
theorem z9nei {σ : zt_St} {z a p : Nat} {R : zR} {beh : Bool} (hz : z < 6) (h30 : R.1 ≤ 30) (hR : zRM σ z R) (hb : zRB R) (ha : σ 95 z = nI a) (ha2 : a < 10000) (hp : p < 10000) (hu : ∀ i, i < R.1 → zun (zbs (zP R i)) a = true) : f_X9_neighbour_27 zt_FU σ (nI z) (nI p) (zb beh) (-1) (32 * nI z) = some (oI 0 ((znl R a R.1 0).foldl (znr R beh p) none), σ) := by
  rw [zfu R.1 (by omega), zl_32, pk_mul, znr_u (znm_e R a R.1 0) (fun x hx => znl_b hb R.1 0 x (by omega) hx)]
  exact z9ngo hz h30 hR hb ha ha2 hp hu R.1 0 none _ (by omega) (fun b w => nomatch w)
