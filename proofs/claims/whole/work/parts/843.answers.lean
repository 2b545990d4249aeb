/-! the answer of a zone: the class's loop and the reference's are one function -/
theorem z3lost {k0 k k4 : Nat} {σ : zt_St} {R : zR} : f_X6_answer_207 k0 k k4 σ = some (zwr σ k4 R (5, -1, -1, nI 0)) := rfl
theorem zrn_c {R : zR} {a s n l : Nat} {nx : Int32} (hb : zRB R) (hF : zFS R) (hn : znm n = true) (h : zrn R a s n = some (l, nx)) : l < R.1 ∧ (nx = -1 ∨ ∃ m, znm m = true ∧ nx = nI m) := by
  unfold zrn at h
  cases hz : ztre R n with
  | some l' =>
    rw [hz] at h
    cases h
    have t := ztre_s hz
    have b := hb l t.1
    exact ⟨t.1, zmv_nm hn (zun_fl (znm_lt hn) t.2.2.2) (hF.2 l t.1 (Or.inr t.2.1))⟩
  | none =>
    rw [hz] at h
    cases hz2 : zrw R (zpp R a n) (nI 1) with
    | none => rw [hz2] at h; cases h
    | some l' =>
      rw [hz2] at h
      have h : (if s = 1 then none else some (l', nI (zV R l'))) = some (l, nx) := h
      by_cases c : s = 1
      · rw [if_pos c] at h; cases h
      · rw [if_neg c] at h
        cases h
        have t := zrw_lt hz2
        have b := hb l t.1
        have t3 := (nI_eq (a := zS R l) (b := 1) (by omega) (by decide)).mp t.2.2
        exact ⟨t.1, Or.inr ⟨_, hF.2 l t.1 (Or.inl t3), rfl⟩⟩
theorem z3ansL {k0 k M k4 a lf s : Nat} {R : zR} (hb : zRB R) (hF : zFS R) (hs : s < 5) (h4 : k4 < k ∨ k + 4 < k4) (ha2 : a < 10000) (hlf : lf ≤ 50) (hk : zK k M R) {σ : zt_St} (hR : zRC σ k R) (ha : σ k0 0 = nI a) (hl : σ k0 1 = nI lf) : ∀ d turn n L m, turn + d = 10 → 1 ≤ turn → znm n = true → L ≤ 50 → f_X6_answer_10 k0 k k4 (m + d + 1) σ (nI s) (nI n) (nI L) (nI turn) = some (zwr σ k4 R (zas R a lf s d turn n L)) := by
  have hM := hk.2.2.2.2
  intro d
  induction d with
  | zero =>
    intro turn n L m h h1 hn hL
    rw [zs_ans]
    unfold f_X6_answer_10b
    rw [zl_9, if_pos (nI_lt (by omega) (by omega))]
    exact z3lost
  | succ d ih =>
    intro turn n L m h h1 hn hL
    have hn1 := znm_lt hn
    have s1 : nI s = 1 ↔ s = 1 := nI_eq (b := 1) (by omega) (by decide)
    have t9 : nI turn = 9 ↔ turn = 9 := nI_eq (b := 9) (by omega) (by decide)
    have step : ∀ l nx, l < R.1 → (nx = -1 ∨ ∃ m', znm m' = true ∧ nx = nI m') → f_X6_answer_144 k0 k k4 (f_X6_answer_10 k0 k k4 (m + d + 1)) σ (nI s) (nI L) (nI turn) (nI l) nx = some (zwr σ k4 R (if nx = -1 ∨ turn = 9 then (5, -1, -1, nI 0) else if zun nx.toNatClampNeg a = true then zas R a lf s d (turn + 1) nx.toNatClampNeg (min L (zL R l)) else (4, -1, nx, nI (min L (zL R l))))) := by
      intro l nx hl1 hx
      have b := hb l hl1
      unfold f_X6_answer_144
      rw [(z3pa hk hR hl1).2.2.2, zbd_s, zmin1 (by omega) (by omega)]
      rcases hx with hx | ⟨m', hm, hx⟩
      · rw [if_pos hx, if_pos (Or.inl hx)]
        exact z3lost
      · have hm1 := znm_lt hm
        subst hx
        rw [if_neg (zm1 (show m' < 2 ^ 31 by omega))]
        simp only [t9]
        by_cases c9 : turn = 9
        · rw [if_pos c9, if_pos (Or.inr c9)]
          exact z3lost
        · rw [if_neg c9, if_neg (show ¬ (nI m' = -1 ∨ turn = 9) from fun w => w.elim (zm1 (by omega)) c9), ha, z3un hm1 (by omega), zbd_s, nI_clamp (by omega), nI_1]
          cases zun m' a with
          | false =>
            rw [if_pos (show zb false = 0 from rfl), if_neg (show ¬ false = true by decide), z0tell, zbd_s]
            rfl
          | true =>
            rw [if_neg (show ¬ zb true = 0 by decide), if_pos rfl]
            exact ih (turn + 1) m' (min L (zL R l)) m (by omega) (by omega) hm (by omega)
    have hpf := z3pf hk hR hb ha ha2 hn1
    have hpf : f_X6_placeFor σ k0 k (nI n) = some (zpp R a n) := hpf
    have h121 : f_X6_answer_121 k0 k k4 σ (nI s) (nI n) (nI L) (zpp R a n) = some (zwr σ k4 R (zat R a lf s n L)) := by
      unfold f_X6_answer_121
      rw [z3aat hk hR hb hn1 hl hlf hL, zbd_s]
    rw [show m + (d + 1) + 1 = (m + d + 1) + 1 from rfl, zs_ans, zas_s]
    unfold f_X6_answer_10b
    rw [zl_9, if_neg (nI_nlt (by omega) (by omega)), z3cof hk hR hb hn1 hs, zbd_s]
    cases hcf : zcf R s n with
    | true =>
      have hcn : zcut R n ≠ none := by
        intro w
        unfold zcf at hcf
        rw [w] at hcf
        cases hcf
      unfold f_X6_answer_43
      rw [if_neg (show ¬ zb true = 0 by decide), if_pos rfl, z3coA hk hR hb hn1 h4 hcn, z3coA hk hR hb hn1 h4 hcn, zbd_s, zbd_s]
      have t1 : nI turn ≤ 1 ↔ turn ≤ 1 := nI_leI (b := 1) (by omega) (by decide)
      simp only [t1, if_true, show ¬ (1 : Int32) = 0 by decide, if_false]
      split <;> rfl
    | false =>
      have ht := z3tre hk hR hb hn1
      have ht : f_X4_treeOver σ k (nI n) = some (oI 0 (ztre R n)) := ht
      rw [if_pos (show zb false = 0 from rfl), if_neg (show ¬ false = true by decide), ht, zbd_s]
      have hrn := @zrn_c R a s n
      cases hz : ztre R n with
      | some l =>
        have t := ztre_s hz
        have b := hb l t.1
        have e : oI 0 (some l) = nI l := congrArg nI (Nat.zero_add l)
        have q := z3pa hk hR t.1
        have e2 : zrn R a s n = some (l, zmv n (zP R l) (zV R l)) := by unfold zrn; rw [hz]
        have hx := (hrn hb hF hn e2).2
        rw [e, if_neg (zm1 (by omega)), q.1, zbd_s, q.2.2.1, zbd_s, z3mv hn1 b.1 b.2.2.1 (zun_fl hn1 t.2.2.2), zbd_s, e2]
        unfold f_X6_answer_84
        rw [if_neg (zm1 (show l < 2 ^ 31 by omega))]
        exact step l _ t.1 hx
      | none =>
        rw [if_pos (show oI 0 none = -1 from rfl)]
        unfold f_X6_answer_84
        have f : f_X4_rowOf σ k (zpp R a n) 1 = some (oI 0 (zrw R (zpp R a n) (nI 1))) := z3row hk hR
        rw [if_pos (show oI 0 none = -1 from rfl), hpf, zbd_s, f, zbd_s]
        simp only [s1]
        cases hz2 : zrw R (zpp R a n) (nI 1) with
        | none =>
          have e2 : zrn R a s n = none := by unfold zrn; rw [hz, hz2]
          rw [if_pos (show oI 0 none = -1 from rfl), e2]
          exact h121
        | some l =>
          have t := zrw_lt hz2
          have b := hb l t.1
          have e : oI 0 (some l) = nI l := congrArg nI (Nat.zero_add l)
          rw [e, if_neg (zm1 (by omega))]
          by_cases c : s = 1
          · have e2 : zrn R a s n = none := by unfold zrn; rw [hz, hz2]; exact if_pos c
            rw [if_pos c, e2]
            exact h121
          · have e2 : zrn R a s n = some (l, nI (zV R l)) := by unfold zrn; rw [hz, hz2]; exact if_neg c
            rw [if_neg c, (z3pa hk hR t.1).2.2.1, zbd_s, e2]
            exact step l _ t.1 (hrn hb hF hn e2).2
theorem z3ans {k0 k M k4 a lf s n : Nat} {R : zR} (hb : zRB R) (hF : zFS R) (hs : s < 5) (h4 : k4 < k ∨ k + 4 < k4) (ha2 : a < 10000) (hlf : lf ≤ 50) (hk : zK k M R) {σ : zt_St} (hR : zRC σ k R) (ha : σ k0 0 = nI a) (hl : σ k0 1 = nI lf) (hn : znm n = true) : f_X6_answer σ k0 k (nI n) (nI s) k4 = some (zwr σ k4 R (zas R a lf s 9 1 n 50)) := by
  unfold f_X6_answer
  rw [zfu 9 (by omega), zl_50, zl_1]
  exact z3ansL hb hF hs h4 ha2 hlf hk hR ha hl 9 1 n 50 _ (by omega) (by omega) hn (by omega)
