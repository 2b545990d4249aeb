/-! the answer of a zone: the class's -/
abbrev zAn : Type := Nat × Int32 × Int32 × Int32
def zcf (R : zR) (s at_ : Nat) : Bool := match zcut R at_ with | none => false | some l => !(decide (s = 3 ∨ s = 4) && decide (zP R l = at_))
def zpp (R : zR) (a at_ : Nat) : Int32 := if zth R at_ = true then nI at_ else zpf (zen R a 4 at_)
def zrn (R : zR) (a s at_ : Nat) : Option (Nat × Int32) := match ztre R at_ with | some l => some (l, zmv at_ (zP R l) (zV R l)) | none => match zrw R (zpp R a at_) (nI 1) with | none => none | some l => if s = 1 then none else some (l, nI (zV R l))
def zat (R : zR) (a lf s at_ L : Nat) : zAn := match zrw R (zpp R a at_) (nI s) with | some l => (0, nI (zV R l), nI at_, nI (min L (zL R l))) | none => ((if zpp R a at_ = nI at_ ∨ 0 < zct (zqa R (zpp R a at_)) R.1 0 then 1 else 2), -1, nI at_, nI (min L lf))
def zre (R : zR) (at_ : Nat) : zAn := match zcut R at_ with | none => (5, -1, -1, nI 0) | some l => (3, nI (zV R l), nI (zP R l), nI (zL R l))
def zas (R : zR) (a lf s : Nat) : Nat → Nat → Nat → Nat → zAn
  | 0, _, _, _ => (5, -1, -1, nI 0)
  | d + 1, turn, at_, L => if zcf R s at_ = true then (if turn ≤ 1 then zre R at_ else (4, -1, nI at_, nI L)) else match zrn R a s at_ with
    | none => zat R a lf s at_ L
    | some (l, nx) => if nx = -1 ∨ turn = 9 then (5, -1, -1, nI 0) else if zun nx.toNatClampNeg a = true then zas R a lf s d (turn + 1) nx.toNatClampNeg (min L (zL R l)) else (4, -1, nx, nI (min L (zL R l)))
theorem zas_s {R : zR} {a lf s d turn at_ L : Nat} : zas R a lf s (d + 1) turn at_ L = if zcf R s at_ = true then (if turn ≤ 1 then zre R at_ else (4, -1, nI at_, nI L)) else match zrn R a s at_ with
    | none => zat R a lf s at_ L
    | some (l, nx) => if nx = -1 ∨ turn = 9 then (5, -1, -1, nI 0) else if zun nx.toNatClampNeg a = true then zas R a lf s d (turn + 1) nx.toNatClampNeg (min L (zL R l)) else (4, -1, nx, nI (min L (zL R l))) := rfl
def zte (σ : zt_St) (k : Nat) (a b c d : Int32) : zt_St := zt_st (zt_st (zt_st (zt_st σ k 0 a) k 1 b) k 2 c) k 3 d
theorem z0tell {σ : zt_St} {k : Nat} {a b c d : Int32} : f_X0_tell σ k a b c d = some (zte σ k a b c d) := rfl
theorem zte_o {σ : zt_St} {k e : Nat} {a b c d : Int32} (h : e ≠ k) : zte σ k a b c d e = σ e := by
  unfold zte
  rw [zst_o h, zst_o h, zst_o h, zst_o h]
def zvo (R : zR) (b : Option Nat) : Int32 := match b with | none => -1 | some j => nI (zV R j)
def zvt (R : zR) (en : Int32) : Int32 := zvo R (zrw R en (nI 4))
def zwr (σ : zt_St) (k : Nat) (R : zR) (r : zAn) : zt_St := if r.1 = 3 then zt_st (zt_st (zte σ k (nI 3) (-1) r.2.2.1 r.2.2.2) k 6 r.2.1) k 7 (zvt R r.2.2.1) else zte σ k (nI r.1) (if r.1 = 0 then r.2.1 else -1) r.2.2.1 r.2.2.2
theorem z3nmA {σ : zt_St} {k M : Nat} {R : zR} {b : Option Nat} (hk : zK k M R) (hR : zRC σ k R) (h : ∀ j, b = some j → j < R.1) : f_X4_numberAt σ k (oI 0 b) = some (zvo R b) := by
  cases b with
  | none => exact z3paN.2.2.1
  | some j =>
    have e : oI 0 (some j) = nI j := congrArg nI (Nat.zero_add j)
    rw [e]
    exact (z3pa hk hR (h j rfl)).2.2.1
theorem z3cof {σ : zt_St} {k M s n : Nat} {R : zR} (hk : zK k M R) (hR : zRC σ k R) (hb : zRB R) (hn : n < 10000) (hs : s < 5) : f_X6_isCutOff σ k (nI n) (nI s) = some (zb (zcf R s n)) := by
  have hM := hk.2.2.2.2
  have k3 : nI s = 3 ↔ s = 3 := nI_eq (b := 3) (by omega) (by decide)
  have k4 : nI s = 4 ↔ s = 4 := nI_eq (b := 4) (by omega) (by decide)
  unfold f_X6_isCutOff f_X6_isCutOff_16 f_X6_isCutOff_29 f_X6_isCutOff_30 zcf
  rw [z3cut hk hR hb hn, zbd_s]
  simp only [k3, k4]
  cases hz : zcut R n with
  | none =>
    rw [show oI 0 none = -1 from rfl, z3paN.1]
    simp only [zbd_s, if_true]
    split
    · split <;> rfl
    · split
      · split <;> rfl
      · rfl
  | some l =>
    have hl := zcut_s hz
    have b := hb l hl.1
    have e : oI 0 (some l) = nI l := congrArg nI (Nat.zero_add l)
    rw [e, (z3pa hk hR hl.1).1]
    simp only [zbd_s, if_neg (zm1 (show l < 2 ^ 31 by omega)), nI_eq (show zP R l < 2 ^ 31 by omega) (show n < 2 ^ 31 by omega), if_true, show ¬ (1 : Int32) = 0 by decide, if_false]
    show _ = some (zb (!(decide (s = 3 ∨ s = 4) && decide (zP R l = n))))
    by_cases c3 : s = 3
    · rw [if_pos c3, decide_eq_true (show s = 3 ∨ s = 4 from Or.inl c3), Bool.true_and]
      by_cases c : zP R l = n
      · rw [if_pos c, decide_eq_true c]; rfl
      · rw [if_neg c, decide_eq_false c]; rfl
    · rw [if_neg c3]
      by_cases c4 : s = 4
      · rw [if_pos c4, decide_eq_true (show s = 3 ∨ s = 4 from Or.inr c4), Bool.true_and]
        by_cases c : zP R l = n
        · rw [if_pos c, decide_eq_true c]; rfl
        · rw [if_neg c, decide_eq_false c]; rfl
      · rw [if_neg c4, decide_eq_false (show ¬ (s = 3 ∨ s = 4) by omega), Bool.false_and]; rfl
theorem z3coA {σ : zt_St} {k M k4 n L : Nat} {R : zR} {x : Int32} (hk : zK k M R) (hR : zRC σ k R) (hb : zRB R) (hn : n < 10000) (h4 : k4 < k ∨ k + 4 < k4) (hc : zcut R n ≠ none) : f_X6_answerCutOff σ k (nI n) (nI L) x k4 = some (zwr σ k4 R (if x = 0 then zre R n else (4, -1, nI n, nI L))) := by
  have hM := hk.2.2.2.2
  unfold f_X6_answerCutOff
  rw [z3cut hk hR hb hn, zbd_s]
  cases hz : zcut R n with
  | none => exact absurd hz hc
  | some l =>
    have hl := zcut_s hz
    have e : oI 0 (some l) = nI l := congrArg nI (Nat.zero_add l)
    have q := z3pa hk hR hl.1
    by_cases c : x = 0
    · have r1 : zRC (zte σ k4 3 (-1) (nI (zP R l)) (nI (zL R l))) k R := zRC_f hR (fun e a b => zte_o (by omega))
      have r2 : zRC (zt_st (zte σ k4 3 (-1) (nI (zP R l)) (nI (zL R l))) k4 6 (nI (zV R l))) k R := zRC_f r1 (fun e a b => zst_o (by omega))
      have n1 : f_X4_numberAt (zt_st (zte σ k4 3 (-1) (nI (zP R l)) (nI (zL R l))) k4 6 (nI (zV R l))) k (oI 0 (zrw R (nI (zP R l)) (nI 4))) = some (zvt R (nI (zP R l))) := z3nmA hk r2 (fun j h => (zrw_lt h).1)
      have f : f_X4_rowOf (zt_st (zte σ k4 3 (-1) (nI (zP R l)) (nI (zL R l))) k4 6 (nI (zV R l))) k (nI (zP R l)) 4 = some (oI 0 (zrw R (nI (zP R l)) (nI 4))) := z3row hk r2
      rw [if_pos c, if_pos c, e, q.1, zbd_s, q.2.2.2, zbd_s, z0tell, zbd_s, (z3pa hk r1 hl.1).2.2.1, zbd_s, zlt_e, f, zbd_s, n1, zbd_s, zlt_e]
      unfold zre zwr
      rw [hz]
      rfl
    · rw [if_neg c, if_neg c, z0tell, zbd_s]
      rfl
theorem zmin1 {a b : Nat} (ha : a < 2 ^ 31) (hb : b < 2 ^ 31) : (if nI b < nI a then nI b else nI a) = nI (min a b) := by
  rcases Nat.lt_or_ge b a with h | h
  · rw [if_pos (nI_lt h ha), Nat.min_eq_right (by omega)]
  · rw [if_neg (nI_nlt h hb), Nat.min_eq_left h]
theorem z3aat {σ : zt_St} {k0 k M k4 a lf s n L : Nat} {R : zR} (hk : zK k M R) (hR : zRC σ k R) (hb : zRB R) (hn : n < 10000) (hl : σ k0 1 = nI lf) (hlf : lf ≤ 50) (hL : L ≤ 50) : f_X6_answerAt σ k0 k (zpp R a n) (nI n) (nI s) (nI L) k4 = some (zwr σ k4 R (zat R a lf s n L)) := by
  have hM := hk.2.2.2.2
  have hc := (zct_c (zqa R (zpp R a n)) R.1 0).1
  unfold f_X6_answerAt f_X6_answerAt_53 f_X6_answerAt_58 f_X6_answerAt_72 zat
  rw [z3row hk hR, zbd_s, hl, zmin1 (by omega) (by omega)]
  cases hz : zrw R (zpp R a n) (nI s) with
  | some l =>
    have hj := (zrw_lt hz).1
    have b := hb l hj
    have q := z3pa hk hR hj
    have e : oI 0 (some l) = nI l := congrArg nI (Nat.zero_add l)
    rw [e, if_neg (zm1 (by omega)), q.2.2.1, zbd_s, q.2.2.2, zbd_s, zmin1 (by omega) (by omega), z0tell, zbd_s]
    rfl
  | none =>
    rw [if_pos (show oI 0 none = -1 from rfl), z3cnt hk hR, zbd_s]
    simp only [z0tell, zbd_s, show ¬ (1 : Int32) = 0 by decide, if_false, if_true]
    by_cases c : zpp R a n = nI n
    · rw [if_pos c, if_pos (Or.inl c)]
      rfl
    · rw [if_neg c]
      by_cases c2 : 0 < zct (zqa R (zpp R a n)) R.1 0
      · rw [if_neg (show ¬ nI (zct (zqa R (zpp R a n)) R.1 0) ≤ 0 from nI_nle c2 (by omega)), if_pos (Or.inr c2)]
        rfl
      · rw [if_pos (show nI (zct (zqa R (zpp R a n)) R.1 0) ≤ 0 from nI_le (b := 0) (by omega) (by decide)), if_neg (show ¬ (zpp R a n = nI n ∨ 0 < zct (zqa R (zpp R a n)) R.1 0) from fun w => w.elim c c2)]
        rfl
theorem zs_ans {k0 k k4 n : Nat} {σ : zt_St} {a b c d : Int32} : f_X6_answer_10 k0 k k4 (n + 1) σ a b c d = f_X6_answer_10b k0 k k4 (f_X6_answer_10 k0 k k4 n) σ a b c d := rfl
/-- what is kept of a set that once fitted: names in ALIAS and TREE, an ALIAS alone, one TREE above a name at most -/
def zFS (R : zR) : Prop := zTU R ∧ ∀ i, i < R.1 → (zS R i = 1 ∨ zS R i = 2) → znm (zV R i) = true
theorem zmv_nm {n f v : Nat} (hn : znm n = true) (hf : zfg f ≤ zfg n) (hv : znm v = true) : zmv n f v = -1 ∨ ∃ m, znm m = true ∧ zmv n f v = nI m := by
  unfold zmv
  have a1 := zfg4 n
  split
  · next c =>
    right
    refine ⟨_, ?_, rfl⟩
    have hn' := of_decide_eq_true hn
    have hv' := of_decide_eq_true hv
    have q1 : zfg n = 0 ∧ n = 0 ∨ zfg n = 1 ∧ 1 ≤ n ∧ n < 10 ∨ zfg n = 2 ∧ 10 ≤ n ∧ n < 100 ∨ zfg n = 3 ∧ 100 ≤ n ∧ n < 1000 ∨ zfg n = 4 ∧ 1000 ≤ n := by
      unfold zfg
      repeat' split
      all_goals omega
    have q2 : zfg v = 0 ∧ v = 0 ∨ zfg v = 1 ∧ 1 ≤ v ∧ v < 10 ∨ zfg v = 2 ∧ 10 ≤ v ∧ v < 100 ∨ zfg v = 3 ∧ 100 ≤ v ∧ v < 1000 ∨ zfg v = 4 ∧ 1000 ≤ v := by
      unfold zfg
      repeat' split
      all_goals omega
    unfold znm
    apply decide_eq_true
    generalize hd : zfg n - zfg f = d at *
    have hd5 : d = 0 ∨ d = 1 ∨ d = 2 ∨ d = 3 ∨ d = 4 := by omega
    rcases hd5 with w | w | w | w | w <;> subst w <;> unfold ztn <;> simp only [Nat.reduceEqDiff, if_true, if_false] <;> omega
  · left; rfl
