/-! KEYED WORLDS: a world is a list of keys (kind, number), an address for each key, a content for each key. -/
abbrev kK : Type := Nat × Nat
def kw_up (e : kK → va_E) (k : kK) (v : va_E) : kK → va_E := fun j => if j = k then v else e j
def kw (ks : List kK) (g : kK → Nat) (e : kK → va_E) : va_W := ks.map fun k => (g k, e k)
theorem kw_get {ks : List kK} {g : kK → Nat} {e : kK → va_E} {Z : va_W} {i : Nat} {k : kK} (hi : ks[i]? = some k) : (kw ks g e ++ Z)[i]? = some (g k, e k) := by
  have hl : i < (kw ks g e).length := by
    simp only [kw, List.length_map]
    exact (List.getElem?_eq_some_iff.mp hi).1
  rw [List.getElem?_append_left hl]
  simp [kw, hi]
theorem kw_at {ks : List kK} {k : kK} (h : k ∈ ks) : ∃ i : Nat, ks[i]? = some k := List.getElem?_of_mem h
theorem kw_set {A : Nat → Prop} {ks : List kK} {g : kK → Nat} {e : kK → va_E} {Z : va_W} {i : Nat} {k : kK} {v : va_E} (hD : va_D A (kw ks g e ++ Z)) (hi : ks[i]? = some k) : (kw ks g e ++ Z).set i (g k, v) = kw ks g (kw_up e k v) ++ Z := by
  have hl : i < (kw ks g e).length := by
    simp only [kw, List.length_map]
    exact (List.getElem?_eq_some_iff.mp hi).1
  rw [List.set_append_left _ _ hl]
  congr 1
  apply List.ext_getElem?
  intro j
  by_cases hj : j = i
  · subst hj
    rw [List.getElem?_set_self hl]
    simp [kw, hi, kw_up]
  · rw [List.getElem?_set_ne (Ne.symm hj)]
    simp only [kw, List.getElem?_map]
    cases hk : ks[j]? with
    | none => rfl
    | some k' =>
      have hne : k' ≠ k := by
        intro he
        subst he
        exact hj (hD.1 j i (g k', e k') (g k', e k') (kw_get hk) (kw_get hi) rfl)
      simp [kw_up, hne]
/-- the state: ints, longs and flags, by kind, number and place -/
abbrev uS : Type := (Nat → Nat → Nat → Int32) × (Nat → Nat → Nat → Int64) × (Nat → Nat → Nat → Bool)
def uI (S : uS) (a b c : Nat) (v : Int32) : uS := (fun x y z => if x = a ∧ y = b ∧ z = c then v else S.1 x y z, S.2)
def uL (S : uS) (a b c : Nat) (v : Int64) : uS := (S.1, fun x y z => if x = a ∧ y = b ∧ z = c then v else S.2.1 x y z, S.2.2)
def uF (S : uS) (a b c : Nat) (v : Bool) : uS := (S.1, S.2.1, fun x y z => if x = a ∧ y = b ∧ z = c then v else S.2.2 x y z)
def bI : Bool → Int32
  | true => 1
  | false => 0
theorem bI_nar (b : Bool) : narrow .boolean (.int (bI b)) = .int (bI b) := by cases b <;> rfl
theorem bI_fit (b : Bool) : fits .boolean (.int (bI b)) = true := by cases b <;> rfl
theorem bI_vn (b : Bool) : vp_nar .boolean (bI b) = bI b := by cases b <;> rfl
theorem bI_0 (b : Bool) : bI b = 0 ↔ b = false := by cases b <;> simp [bI]
theorem bI_eq (a b : Bool) : bI a = bI b ↔ a = b := by cases a <;> cases b <;> simp [bI]
/-- where things lie: the classes' numbers, the array classes, the addresses by keys -/
abbrev gG : Type := va_G × (Nat → ClassId) × (kK → Nat)
abbrev gTy (G : gG) : List (ClassId × FieldType) := [(G.2.1 0, .int), (G.2.1 1, .long), (G.2.1 2, .boolean), (G.2.1 3, .object "BranchPredictor$Branch"), (G.2.1 4, .object "BranchPredictor$Loop")]
/-- what lies at a key: 0 the predictor, 1 its tables, 2 their rows, 3 its audits, 4 their rows, 5 the ring, 6 the loops' row, 7 the misses, 8 the branches, 9 the loops; 10 the model, 11 its int rows, 12 its flag rows, 13 its long rows; 14 the law's row -/
def eE (G : gG) (k : kK) (i : Nat → Int32) (l : Nat → Int64) (f : Nat → Bool) : va_E := match k.1 with
  | 0 => .inr (4, [.ref (G.2.2 (1, 0)), .ref (G.2.2 (1, 1)), .ref (G.2.2 (1, 2)), .ref (G.2.2 (3, 0)), .ref (G.2.2 (3, 1)), .ref (G.2.2 (5, 0)), .ref (G.2.2 (6, 0)), .ref (G.2.2 (7, 0)), .int (i 8), .int (i 9), .int (i 10), .int (i 11), .int (i 12), .int (i 13), .long (l 14), .long (l 15)])
  | 1 => .inr (2, [.ref (G.2.2 (2, k.2)), .int (i 1)])
  | 2 => .inl (G.2.1 0, 256, .inl i)
  | 3 => .inr (0, [.ref (G.2.2 (4, k.2)), .long (l 1), .long (l 2)])
  | 4 => .inl (G.2.1 0, 256, .inl i)
  | 5 => .inl (G.2.1 3, 16, .inr (.inr (.inr (.inr (fun j => some (G.2.2 (8, j)))))))
  | 6 => .inl (G.2.1 4, 8, .inr (.inr (.inr (.inr (fun j => some (G.2.2 (9, j)))))))
  | 7 => .inl (G.2.1 1, 4, .inr (.inl l))
  | 8 => .inr (1, [.int (i 0), .int (i 1), .int (i 2), .int (i 3), .int (i 4), .int (bI (f 5)), .int (bI (f 6)), .int (bI (f 7)), .int (bI (f 8))])
  | 9 => .inr (3, [.int (i 0), .int (i 1), .int (i 2), .int (i 3)])
  | 10 => .inr (5, [.int (i 0), .int (i 1), .int (i 2), .int (i 3), .int (i 4), .ref (G.2.2 (11, 0)), .ref (G.2.2 (11, 1)), .int (i 7), .ref (G.2.2 (11, 2)), .ref (G.2.2 (11, 3)), .ref (G.2.2 (12, 0)), .ref (G.2.2 (12, 1)), .ref (G.2.2 (12, 2)), .ref (G.2.2 (12, 3)), .ref (G.2.2 (11, 4)), .ref (G.2.2 (11, 5)), .ref (G.2.2 (11, 6)), .ref (G.2.2 (11, 7)), .long (l 18), .long (l 19), .ref (G.2.2 (13, 0)), .ref (G.2.2 (13, 1))])
  | 11 => .inl (G.2.1 0, (match k.2 with | 0 => 768 | 1 => 512 | 2 => 16 | 3 => 16 | _ => 8), .inl i)
  | 12 => .inl (G.2.1 2, (match k.2 with | 0 => 64 | 1 => 16 | 2 => 16 | _ => 8), .inl (fun j => bI (f j)))
  | 13 => .inl (G.2.1 1, 4, .inr (.inl l))
  | _ => .inl (G.2.1 1, 1, .inr (.inl l))
def eU (G : gG) (S : uS) (k : kK) : va_E := eE G k (S.1 k.1 k.2) (S.2.1 k.1 k.2) (S.2.2 k.1 k.2)
theorem eU_uI (G : gG) (S : uS) (a b c : Nat) (v : Int32) : kw_up (eU G S) (a, b) (eE G (a, b) (upd (S.1 a b) c v) (S.2.1 a b) (S.2.2 a b)) = eU G (uI S a b c v) := by
  funext k
  obtain ⟨x, y⟩ := k
  by_cases h : (x, y) = (a, b)
  · cases h
    simp only [kw_up, if_true, eU, uI]
    congr 1
    funext z
    simp [upd]
  · have h2 : ¬ (x = a ∧ y = b) := fun q => h (by rw [q.1, q.2])
    simp only [kw_up, if_neg h, eU, uI]
    congr 1
    funext z
    rw [if_neg (fun q => h2 ⟨q.1, q.2.1⟩)]
theorem eU_uL (G : gG) (S : uS) (a b c : Nat) (v : Int64) : kw_up (eU G S) (a, b) (eE G (a, b) (S.1 a b) (vp_updL (S.2.1 a b) c v) (S.2.2 a b)) = eU G (uL S a b c v) := by
  funext k
  obtain ⟨x, y⟩ := k
  by_cases h : (x, y) = (a, b)
  · cases h
    simp only [kw_up, if_true, eU, uL]
    congr 1
    funext z
    simp [vp_updL]
  · have h2 : ¬ (x = a ∧ y = b) := fun q => h (by rw [q.1, q.2])
    simp only [kw_up, if_neg h, eU, uL]
    congr 1
    funext z
    rw [if_neg (fun q => h2 ⟨q.1, q.2.1⟩)]
def updF (f : Nat → Bool) (k : Nat) (x : Bool) : Nat → Bool := fun j => if j = k then x else f j
theorem eU_uF (G : gG) (S : uS) (a b c : Nat) (v : Bool) : kw_up (eU G S) (a, b) (eE G (a, b) (S.1 a b) (S.2.1 a b) (updF (S.2.2 a b) c v)) = eU G (uF S a b c v) := by
  funext k
  obtain ⟨x, y⟩ := k
  by_cases h : (x, y) = (a, b)
  · cases h
    simp only [kw_up, if_true, eU, uF]
    congr 1
    funext z
    simp [updF]
  · have h2 : ¬ (x = a ∧ y = b) := fun q => h (by rw [q.1, q.2])
    simp only [kw_up, if_neg h, eU, uF]
    congr 1
    funext z
    rw [if_neg (fun q => h2 ⟨q.1, q.2.1⟩)]
theorem updF_bI (f : Nat → Bool) (k : Nat) (b : Bool) : upd (fun j => bI (f j)) k (bI b) = fun j => bI (updF f k b j) := by
  funext j
  by_cases h : j = k <;> simp [upd, updF, h]
abbrev vwCl : List vw_C := [(RX0, TX0, 3), (RX1, TX1, 9), (RX2, TX2, 2), (RX3, TX3, 4), (RX4, TX4, 16), (RX5, TX5, 22)]
