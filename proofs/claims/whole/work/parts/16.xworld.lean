/-! methods that throw: what the start must say of exceptions, the sets, the ends -/
def zt_xs : List (Nat × String) := [(53, "the apex or the life is out of range"), (67, "there are 6 zones, or one is at that name"), (89, "the number or the life is out of range"), (103, "what is asked of a zone is out of range"), (140, "the name is not under the apex of the zone"), (155, "what is asked of an answer is out of range"), (161, "neither a name nor a star"), (183, "the time is out of range"), (188, "the slot or the key is out of range"), (193, "the window is out of range"), (201, "the key is out of range"), (211, "there is no such zone"), (215, "10 conditions and changes are told"), (220, "the name or the sort is out of range")]
def zt_xd : List MethodName := [Bundle.initS "java/lang/RuntimeException", Bundle.initS "java/lang/Exception", Bundle.initS Bundle.tN]
def zt_xc : List (String × String) := [("java/lang/IllegalArgumentException", "java/lang/IllegalArgumentException"), ("java/lang/IllegalStateException", "java/lang/IllegalStateException"), ("java/lang/IndexOutOfBoundsException", "java/lang/IndexOutOfBoundsException")]
def zt_xn : List (String × String) := [("java/lang/IllegalArgumentException", "java/lang/IndexOutOfBoundsException"), ("java/lang/IllegalStateException", "java/lang/IndexOutOfBoundsException"), ("java/lang/IllegalStateException", "java/lang/IllegalArgumentException")]
def zt_exc (c : Int32) (E : String) : Prop := (c = 1 ∧ E = "java/lang/IllegalArgumentException") ∨ (c = 2 ∧ E = "java/lang/IllegalStateException") ∨ (c = 3 ∧ E = "java/lang/IndexOutOfBoundsException")
theorem zt_exc_ne {c : Int32} {E : String} (h : zt_exc c E) : ¬ c = 0 := by
  rcases h with ⟨rfl, -⟩ | ⟨rfl, -⟩ | ⟨rfl, -⟩ <;> decide
def zt_X (G : zt_G) (U : State) (H : Heap) : Prop := vx_Zq Bundle.tN "UNASSIGNED_STACK" Bundle.steD (zt_A G) U H ∧ vx_Zq Bundle.tN "SUPPRESSED_SENTINEL" Bundle.listD (zt_A G) U H ∧ (∀ q ∈ zt_xs, ∃ a, vk_R "ZoneTree" q.1 q.2 a U) ∧ (∀ q ∈ zt_xd, va_Nw (.declares q) U) ∧ (∀ q ∈ zt_xc, va_Nw (.castable q.1 q.2) U) ∧ (∀ q ∈ zt_xn, va_Nc q.1 q.2 U)
theorem zt_X.go {G : zt_G} {s U : State} {H : Heap} (hW : s.WarmedH U.vm) (h : zt_X G s s.heap) (hq : ∀ a : Nat, a < s.heap.size → ¬ zt_A G a → H[a]? = s.heap[a]?) : zt_X G U H := ⟨vx_Zq.moved hW.alike (vx_Zq.kept h.1 hq), vx_Zq.moved hW.alike (vx_Zq.kept h.2.1 hq), fun q hm => (h.2.2.1 q hm).imp (fun a r => vk_R.warm hW r), fun q hm => va_Nw.warmD hW (h.2.2.2.1 q hm), fun q hm => va_Nw.warmC hW (h.2.2.2.2.1 q hm), fun q hm => va_Nc.moved hW.alike (h.2.2.2.2.2 q hm)⟩
def zt_A2 (G : zt_G) (sz : Nat) : Nat → Prop := fun q => zt_A G q ∨ sz ≤ q
theorem zt_id2 {G : zt_G} {s : State} : ∀ a : Nat, a < s.heap.size → zt_A2 G s.heap.size a → zt_A G a := fun a h1 h2 => h2.resolve_right (Nat.not_le.mpr h1)
theorem zt_apart2 {G : zt_G} {σ : zt_St} {sz : Nat} (h : zt_inj G) : va_D (zt_A2 G sz) (zt_ww G σ) := (zt_apart h).weaken (fun _ _ _ hh => Or.inl hh)
theorem zt_Zw {C n d : String} {v : Value} {A B : Nat → Prop} {U : State} {H : Heap} (h : va_Z C n d v A U H) (hB : ∀ a : Nat, a < H.size → ¬ A a → ¬ B a) : va_Z C n d v B U H := by
  obtain ⟨cf, kf, fi, f, a, cell, h1, h2, h3, h4, h5, h6, h7, h8⟩ := h
  exact ⟨cf, kf, fi, f, a, cell, h1, h2, h3, h4, h5, h6, h7, hB a (Array.getElem?_eq_some_iff.mp h5).1 h8⟩
theorem zt_Lw {C n d : String} {A B : Nat → Prop} {U : State} {H : Heap} (h : vx_L C n d A U H) (hB : ∀ a : Nat, a < H.size → ¬ A a → ¬ B a) : vx_L C n d B U H := by
  obtain ⟨cf, kf, fi, f, a, cell, h1, h2, h3, h4, h5, h6, h7, h8, h9, h10⟩ := h
  exact ⟨cf, kf, fi, f, a, cell, h1, h2, h3, h4, h5, h6, h7, h8, h9, hB a (Array.getElem?_eq_some_iff.mp h5).1 h10⟩
theorem zt_Zqw {C n d : String} {A B : Nat → Prop} {U : State} {H : Heap} (h : vx_Zq C n d A U H) (hB : ∀ a : Nat, a < H.size → ¬ A a → ¬ B a) : vx_Zq C n d B U H := ⟨h.1.imp (fun z => zt_Zw z hB) (fun ⟨t, z⟩ => ⟨t, zt_Zw z hB⟩), zt_Lw h.2 hB⟩
theorem zt_A2n {G : zt_G} {H : Heap} : ∀ a : Nat, a < H.size → ¬ zt_A G a → ¬ zt_A2 G H.size a := fun a h1 h2 h3 => h3.elim h2 (Nat.not_le.mpr h1)
def zt_B2 (G : zt_G) (σ : zt_St) (sz : Nat) (U : State) : Prop := U.heap.size = sz ∧ zt_B G σ U ∧ zt_X G U U.heap
theorem zt_blind2 {G : zt_G} {σ : zt_St} {sz : Nat} {av : List Value} : FrameBlind (va_Pc av (zt_B2 G σ sz)) := fun a U g mk q => ⟨q.1, q.2.1, (zt_blind (av := av) a U g mk ⟨q.1, q.2.2.1⟩).2, vx_Zq.moved (u := U) (U := U.calling g mk a) (Vm.Alike.refl U.vm) q.2.2.2.1, vx_Zq.moved (u := U) (U := U.calling g mk a) (Vm.Alike.refl U.vm) q.2.2.2.2.1, fun z hm => (q.2.2.2.2.2.1 z hm).imp (fun a9 r => vk_R.same (u := U) (U := U.calling g mk a) rfl r), fun z hm => va_Nw.same (u := U) (U := U.calling g mk a) rfl rfl (q.2.2.2.2.2.2.1 z hm), fun z hm => va_Nw.same (u := U) (U := U.calling g mk a) rfl rfl (q.2.2.2.2.2.2.2.1 z hm), fun z hm => va_Nc.moved (u := U) (U := U.calling g mk a) (Vm.Alike.refl U.vm) (q.2.2.2.2.2.2.2.2 z hm)⟩
theorem zt_go2 {G : zt_G} {σ : zt_St} {s U : State} {H : Heap} {locs : List Loc} (hE : zt_E G s) (hX : zt_X G s s.heap) (hP : va_P (zt_D G) vwCl (zt_ww G σ) H) (hS : va_S (zt_A2 G s.heap.size) s.heap H locs) (hU : U.heap = H) (hW : s.WarmedH U.vm) : zt_B2 G σ H.size U := by
  refine ⟨by rw [hU], zt_go hE hP hS zt_id2 hU hW, ?_⟩
  rw [hU]
  exact zt_X.go hW hX (fun a h1 h2 => hS.2.1 a h1 (zt_A2n a h1 h2))
theorem zt_dn {G : zt_G} {s : State} {H : Heap} {locs : List Loc} {A : Nat → Prop} (_ : va_S A s.heap H locs) : ∀ q : Nat, q < H.size → zt_A2 G H.size q → zt_A2 G s.heap.size q := fun q h1 h2 => Or.inl (h2.resolve_right (Nat.not_le.mpr h1))
theorem zt_up {G : zt_G} {s : State} {H : Heap} {locs : List Loc} {A : Nat → Prop} (hS : va_S A s.heap H locs) : ∀ q : Nat, zt_A2 G H.size q → zt_A2 G s.heap.size q := fun q h => h.imp id (fun z => Nat.le_trans hS.1 z)
abbrev zt_XC (G : zt_G) (c : Int32) (σ1 : zt_St) (sz : Nat) : String → State → State → Prop := vx_X (fun (u : zt_St) => u = σ1) (fun E u t => zt_exc c E ∧ va_P (zt_D G) vwCl (zt_ww G u) t.heap) (zt_A2 G sz)
abbrev zt_Yi (G : zt_G) (c r : Int32) (σ1 : zt_St) (sz : Nat) : Array Value → State → Outcome → State → Prop := va_Qi (fun (r1 : Int32) (u : zt_St) => c = 0 ∧ r1 = r ∧ u = σ1) (fun u t => zt_B G u t) (zt_A2 G sz)
abbrev zt_Yv (G : zt_G) (c r : Int32) (σ1 : zt_St) (sz : Nat) : Array Value → State → Outcome → State → Prop := va_Qv (fun (u : zt_St) => c = 0 ∧ 0 = r ∧ u = σ1) (fun u t => zt_B G u t) (zt_A2 G sz)
abbrev zt_RX (fr lo mc ms : Nat) : Room := { frames := fr, cells := mc, slots := ms, locals := lo }
abbrev zt_MXi (l : Launch) (G : zt_G) (y : MethodName) (ws : List Cond) (fr lo mc ms : Nat) (av : List Value) (sz : Nat) (σ : zt_St) (c r : Int32) (σ1 : zt_St) : Prop := vx_Met l y ws (zt_RX fr lo mc ms) (va_Pc av (zt_B2 G σ sz)) (zt_Yi G c r σ1 sz) (zt_XC G c σ1 sz) mc ms (zt_A2 G sz)
abbrev zt_MXv (l : Launch) (G : zt_G) (y : MethodName) (ws : List Cond) (fr lo mc ms : Nat) (av : List Value) (sz : Nat) (σ : zt_St) (c r : Int32) (σ1 : zt_St) : Prop := vx_Met l y ws (zt_RX fr lo mc ms) (va_Pc av (zt_B2 G σ sz)) (zt_Yv G c r σ1 sz) (zt_XC G c σ1 sz) mc ms (zt_A2 G sz)
theorem zt_in3 {c x r : Int32} {s s1 : zt_St} (h : some ((0 : Int32), x, s) = some (c, r, s1)) : c = 0 ∧ x = r ∧ s = s1 := by
  have h1 := Prod.mk.inj (Option.some.inj h)
  exact ⟨h1.1.symm, (Prod.mk.inj h1.2).1, (Prod.mk.inj h1.2).2⟩
theorem zt_in3x {a c x r : Int32} {s s1 : zt_St} (h : some (a, x, s) = some (c, r, s1)) : a = c ∧ s = s1 := by
  have h1 := Prod.mk.inj (Option.some.inj h)
  exact ⟨h1.1, (Prod.mk.inj h1.2).2⟩
def zt_bx (a : Option (Int32 × Int32 × zt_St)) (f : Int32 → zt_St → Option (Int32 × Int32 × zt_St)) : Option (Int32 × Int32 × zt_St) := match a with
  | none => none
  | some q => if q.1 = 0 then f q.2.1 q.2.2 else some (q.1, 0, q.2.2)
theorem zt_bx_some {a : Option (Int32 × Int32 × zt_St)} {f : Int32 → zt_St → Option (Int32 × Int32 × zt_St)} {r : Int32 × Int32 × zt_St} (h : zt_bx a f = some r) : ∃ (c v : Int32) (σ : zt_St), a = some (c, v, σ) ∧ ((c = 0 ∧ f v σ = some r) ∨ (¬ c = 0 ∧ some (c, (0 : Int32), σ) = some r)) := by
  match a, h with
  | some (c, v, σ), h =>
    refine ⟨c, v, σ, rfl, ?_⟩
    by_cases hc : c = 0
    · exact Or.inl ⟨hc, (if_pos hc).symm.trans h⟩
    · exact Or.inr ⟨hc, (if_neg hc).symm.trans h⟩
/-- the law asks: what comes back, or the number of what was thrown -/
def zt_bl (a : Option (Int32 × Int32 × zt_St)) (f : Int32 → zt_St → Option (Int32 × zt_St)) (g : Int32 → zt_St → Option (Int32 × zt_St)) : Option (Int32 × zt_St) := match a with
  | none => none
  | some q => if q.1 = 0 then f q.2.1 q.2.2 else g q.1 q.2.2
theorem zt_bl_some {a : Option (Int32 × Int32 × zt_St)} {f g : Int32 → zt_St → Option (Int32 × zt_St)} {r : Int32 × zt_St} (h : zt_bl a f g = some r) : ∃ (c v : Int32) (σ : zt_St), a = some (c, v, σ) ∧ ((c = 0 ∧ f v σ = some r) ∨ (¬ c = 0 ∧ g c σ = some r)) := by
  match a, h with
  | some (c, v, σ), h =>
    refine ⟨c, v, σ, rfl, ?_⟩
    by_cases hc : c = 0
    · exact Or.inl ⟨hc, (if_pos hc).symm.trans h⟩
    · exact Or.inr ⟨hc, (if_neg hc).symm.trans h⟩
theorem zt_thrown {G : zt_G} {σ : zt_St} {s t : State} {H : Heap} {locs : List Loc} {c : Int32} {E : String} (hP : va_P (zt_D G) vwCl (zt_ww G σ) H) (hS : va_S (zt_A2 G s.heap.size) s.heap H locs) (h1 : H.size ≤ t.heap.size) (h2 : ∀ q : Nat, q < H.size → t.heap[q]? = H[q]?) (hc : zt_exc c E) : zt_XC G c σ s.heap.size E s t :=
  ⟨σ, rfl, ⟨hc, hP.kept (fun k q hk => h2 q.1 ((hP k q hk).lt))⟩, Nat.le_trans hS.1 h1, fun q hq hn => (h2 q (Nat.lt_of_lt_of_le hq hS.1)).trans (hS.2.1 q hq hn)⟩
theorem zt_passed {G : zt_G} {σ : zt_St} {s t : State} {H : Heap} {locs : List Loc} {c : Int32} {E : String} (hP : va_P (zt_D G) vwCl (zt_ww G σ) H) (hS : va_S (zt_A2 G s.heap.size) s.heap H locs) (ht : t.heap = H) (hc : zt_exc c E) : zt_XC G c σ s.heap.size E s t :=
  ⟨σ, rfl, ⟨hc, by rw [ht]; exact hP⟩, by rw [ht]; exact hS.1, fun q hq hn => by rw [ht]; exact hS.2.1 q hq hn⟩
abbrev zt_Ui (G : zt_G) (r : Int32) (σ1 : zt_St) (sz : Nat) : Array Value → State → Outcome → State → Prop := va_Qi (fun (r1 : Int32) (u : zt_St) => r1 = r ∧ u = σ1) (fun u t => zt_B G u t) (zt_A2 G sz)
abbrev zt_UX (G : zt_G) (sz : Nat) : String → State → State → Prop := vx_X (fun (_ : zt_St) => False) (fun _ _ _ => True) (zt_A2 G sz)
abbrev zt_MU (l : Launch) (G : zt_G) (y : MethodName) (ws : List Cond) (fr lo mc ms : Nat) (av : List Value) (sz : Nat) (σ : zt_St) (r : Int32) (σ1 : zt_St) : Prop := vx_Met l y ws (zt_RX fr lo mc ms) (va_Pc av (zt_B2 G σ sz)) (zt_Ui G r σ1 sz) (zt_UX G sz) mc ms (zt_A2 G sz)
def zt_ng1 : List Cond := [.declares (Bundle.initS "java/lang/RuntimeException"), .declares (Bundle.initS "java/lang/Exception"), .declares (Bundle.initS Bundle.tN), .castable "java/lang/IllegalArgumentException" "java/lang/IllegalArgumentException"]
theorem zt_ng1_ok : ∀ w ∈ (vx_atS RX8 55 "java/lang/IllegalArgumentException" ["java/lang/RuntimeException", "java/lang/Exception"]).filter (fun w => !goodWord w), w ∈ zt_ng1 := by decide +kernel
theorem zt_gd1 : ∀ w ∈ Cond.classLink RX8 51 "java/lang/IllegalArgumentException" :: Cond.initialized "java/lang/IllegalArgumentException" :: vx_atS RX8 55 "java/lang/IllegalArgumentException" ["java/lang/RuntimeException", "java/lang/Exception"], vx_ot w = true := by decide +kernel
theorem zt_at1 {G : zt_G} {s : State} {H : Heap} {args : Array Value} (hX : zt_X G s H) (h1 : ∀ w ∈ (vx_atS RX8 55 "java/lang/IllegalArgumentException" ["java/lang/RuntimeException", "java/lang/Exception"]).filter goodWord, w.before args s = true) : ∀ w ∈ vx_atS RX8 55 "java/lang/IllegalArgumentException" ["java/lang/RuntimeException", "java/lang/Exception"], w.before args s = true := by
  refine vx_hat h1 zt_ng1_ok ?_
  exact vx_c (va_Nw.use rfl (hX.2.2.2.1 _ (List.mem_of_getElem? (i := 0) rfl))) (vx_c (va_Nw.use rfl (hX.2.2.2.1 _ (List.mem_of_getElem? (i := 1) rfl))) (vx_c (va_Nw.use rfl (hX.2.2.2.1 _ (List.mem_of_getElem? (i := 2) rfl))) (vx_c (va_Nw.use rfl (hX.2.2.2.2.1 _ (List.mem_of_getElem? (i := 0) rfl))) vx_n)))
def zt_ng2 : List Cond := [.declares (Bundle.initS "java/lang/RuntimeException"), .declares (Bundle.initS "java/lang/Exception"), .declares (Bundle.initS Bundle.tN), .castable "java/lang/IllegalStateException" "java/lang/IllegalStateException"]
theorem zt_ng2_ok : ∀ w ∈ (vx_atS RX8 69 "java/lang/IllegalStateException" ["java/lang/RuntimeException", "java/lang/Exception"]).filter (fun w => !goodWord w), w ∈ zt_ng2 := by decide +kernel
theorem zt_gd2 : ∀ w ∈ Cond.classLink RX8 65 "java/lang/IllegalStateException" :: Cond.initialized "java/lang/IllegalStateException" :: vx_atS RX8 69 "java/lang/IllegalStateException" ["java/lang/RuntimeException", "java/lang/Exception"], vx_ot w = true := by decide +kernel
theorem zt_at2 {G : zt_G} {s : State} {H : Heap} {args : Array Value} (hX : zt_X G s H) (h1 : ∀ w ∈ (vx_atS RX8 69 "java/lang/IllegalStateException" ["java/lang/RuntimeException", "java/lang/Exception"]).filter goodWord, w.before args s = true) : ∀ w ∈ vx_atS RX8 69 "java/lang/IllegalStateException" ["java/lang/RuntimeException", "java/lang/Exception"], w.before args s = true := by
  refine vx_hat h1 zt_ng2_ok ?_
  exact vx_c (va_Nw.use rfl (hX.2.2.2.1 _ (List.mem_of_getElem? (i := 0) rfl))) (vx_c (va_Nw.use rfl (hX.2.2.2.1 _ (List.mem_of_getElem? (i := 1) rfl))) (vx_c (va_Nw.use rfl (hX.2.2.2.1 _ (List.mem_of_getElem? (i := 2) rfl))) (vx_c (va_Nw.use rfl (hX.2.2.2.2.1 _ (List.mem_of_getElem? (i := 1) rfl))) vx_n)))
def zt_ng3 : List Cond := [.declares (Bundle.initS "java/lang/RuntimeException"), .declares (Bundle.initS "java/lang/Exception"), .declares (Bundle.initS Bundle.tN), .castable "java/lang/IndexOutOfBoundsException" "java/lang/IndexOutOfBoundsException"]
theorem zt_ng3_ok : ∀ w ∈ (vx_atS RX8 213 "java/lang/IndexOutOfBoundsException" ["java/lang/RuntimeException", "java/lang/Exception"]).filter (fun w => !goodWord w), w ∈ zt_ng3 := by decide +kernel
theorem zt_gd3 : ∀ w ∈ Cond.classLink RX8 209 "java/lang/IndexOutOfBoundsException" :: Cond.initialized "java/lang/IndexOutOfBoundsException" :: vx_atS RX8 213 "java/lang/IndexOutOfBoundsException" ["java/lang/RuntimeException", "java/lang/Exception"], vx_ot w = true := by decide +kernel
theorem zt_at3 {G : zt_G} {s : State} {H : Heap} {args : Array Value} (hX : zt_X G s H) (h1 : ∀ w ∈ (vx_atS RX8 213 "java/lang/IndexOutOfBoundsException" ["java/lang/RuntimeException", "java/lang/Exception"]).filter goodWord, w.before args s = true) : ∀ w ∈ vx_atS RX8 213 "java/lang/IndexOutOfBoundsException" ["java/lang/RuntimeException", "java/lang/Exception"], w.before args s = true := by
  refine vx_hat h1 zt_ng3_ok ?_
  exact vx_c (va_Nw.use rfl (hX.2.2.2.1 _ (List.mem_of_getElem? (i := 0) rfl))) (vx_c (va_Nw.use rfl (hX.2.2.2.1 _ (List.mem_of_getElem? (i := 1) rfl))) (vx_c (va_Nw.use rfl (hX.2.2.2.1 _ (List.mem_of_getElem? (i := 2) rfl))) (vx_c (va_Nw.use rfl (hX.2.2.2.2.1 _ (List.mem_of_getElem? (i := 2) rfl))) vx_n)))
