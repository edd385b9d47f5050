/-! typed values, a typed memory, and the judgement zW over them -/
abbrev ZV : Type := Int32 ⊕ (Option Nat) ⊕ Int64 ⊕ UInt32 ⊕ UInt64
abbrev zi (x : Int32) : ZV := .inl x
abbrev zr (r : Option Nat) : ZV := .inr (.inl r)
abbrev zj (x : Int64) : ZV := .inr (.inr (.inl x))
abbrev zf (x : UInt32) : ZV := .inr (.inr (.inr (.inl x)))
abbrev zd (x : UInt64) : ZV := .inr (.inr (.inr (.inr x)))
def zv (v : ZV) : Value := match v with
  | .inl x => .int x
  | .inr (.inl r) => va_rf r
  | .inr (.inr (.inl x)) => .long x
  | .inr (.inr (.inr (.inl x))) => .float x
  | .inr (.inr (.inr (.inr x))) => .double x
def zwide (v : ZV) : Bool := match v with
  | .inl _ => false
  | .inr (.inl _) => false
  | .inr (.inr (.inl _)) => true
  | .inr (.inr (.inr (.inl _))) => false
  | .inr (.inr (.inr (.inr _))) => true
theorem va_rf_cat (r : Option Nat) : (va_rf r).category = 1 := by cases r <;> rfl
theorem zv_cat (v : ZV) : (zv v).category = if zwide v = true then 2 else 1 := by
  obtain x | x | x | x | x := v
  · rfl
  · exact va_rf_cat x
  · rfl
  · rfl
  · rfl
/-- K kinds, I ints, Q references, J longs of the fields (field, address); N lengths, tI, tQ, tJ, tD contents of the arrays (address, place) -/
abbrev ZM : Type := (Nat → Nat) × (Nat → Nat → Int32) × (Nat → Nat → Option Nat) × (Nat → Nat → Int64) × (Nat → Nat) × (Nat → Nat → Int32) × (Nat → Nat → Option Nat) × (Nat → Nat → Int64) × (Nat → Nat → UInt64)
abbrev mK (S : ZM) : Nat → Nat := S.1
abbrev mI (S : ZM) : Nat → Nat → Int32 := S.2.1
abbrev mQ (S : ZM) : Nat → Nat → Option Nat := S.2.2.1
abbrev mJ (S : ZM) : Nat → Nat → Int64 := S.2.2.2.1
abbrev mN (S : ZM) : Nat → Nat := S.2.2.2.2.1
abbrev tI (S : ZM) : Nat → Nat → Int32 := S.2.2.2.2.2.1
abbrev tQ (S : ZM) : Nat → Nat → Option Nat := S.2.2.2.2.2.2.1
abbrev tJ (S : ZM) : Nat → Nat → Int64 := S.2.2.2.2.2.2.2.1
abbrev tD (S : ZM) : Nat → Nat → UInt64 := S.2.2.2.2.2.2.2.2
/-- a map of two places, but v at (k, a) -/
def up2 {α : Type} (f : Nat → Nat → α) (k a : Nat) (v : α) : Nat → Nat → α := fun k' a' => if k' = k then (if a' = a then v else f k' a') else f k' a'
/-- a map of two places, but g at the first place a -/
def up1 {α : Type} (f : Nat → α) (a : Nat) (v : α) : Nat → α := fun a' => if a' = a then v else f a'
/-- a map of two places, but v wherever the second is a -/
def upz {α : Type} (f : Nat → Nat → α) (a : Nat) (v : α) : Nat → Nat → α := fun k' a' => if a' = a then v else f k' a'
theorem up2_self {α : Type} {f : Nat → Nat → α} {k a : Nat} {v : α} : up2 f k a v k a = v := by simp [up2]
theorem up2_k {α : Type} {f : Nat → Nat → α} {k k' a a' : Nat} {v : α} (h : k' ≠ k) : up2 f k a v k' a' = f k' a' := by simp [up2, h]
theorem up2_a {α : Type} {f : Nat → Nat → α} {k k' a a' : Nat} {v : α} (h : a' ≠ a) : up2 f k a v k' a' = f k' a' := by simp [up2, h]
theorem up1_self {α : Type} {f : Nat → α} {a : Nat} {v : α} : up1 f a v a = v := by simp [up1]
theorem up1_ne {α : Type} {f : Nat → α} {a b : Nat} {v : α} (h : b ≠ a) : up1 f a v b = f b := by simp [up1, h]
theorem upz_self {α : Type} {f : Nat → Nat → α} {k a : Nat} {v : α} : upz f a v k a = v := by simp [upz]
theorem upz_ne {α : Type} {f : Nat → Nat → α} {k a b : Nat} {v : α} (h : b ≠ a) : upz f a v k b = f k b := by simp [upz, h]
abbrev sI (S : ZM) (k a : Nat) (v : Int32) : ZM := (S.1, up2 S.2.1 k a v, S.2.2)
abbrev sQ (S : ZM) (k a : Nat) (v : Option Nat) : ZM := (S.1, S.2.1, up2 S.2.2.1 k a v, S.2.2.2)
abbrev sJ (S : ZM) (k a : Nat) (v : Int64) : ZM := (S.1, S.2.1, S.2.2.1, up2 S.2.2.2.1 k a v, S.2.2.2.2)
abbrev eI (S : ZM) (a i : Nat) (v : Int32) : ZM := (S.1, S.2.1, S.2.2.1, S.2.2.2.1, S.2.2.2.2.1, up2 S.2.2.2.2.2.1 a i v, S.2.2.2.2.2.2)
abbrev eQ (S : ZM) (a i : Nat) (v : Option Nat) : ZM := (S.1, S.2.1, S.2.2.1, S.2.2.2.1, S.2.2.2.2.1, S.2.2.2.2.2.1, up2 S.2.2.2.2.2.2.1 a i v, S.2.2.2.2.2.2.2)
abbrev eJ (S : ZM) (a i : Nat) (v : Int64) : ZM := (S.1, S.2.1, S.2.2.1, S.2.2.2.1, S.2.2.2.2.1, S.2.2.2.2.2.1, S.2.2.2.2.2.2.1, up2 S.2.2.2.2.2.2.2.1 a i v, S.2.2.2.2.2.2.2.2)
abbrev eD (S : ZM) (a i : Nat) (v : UInt64) : ZM := (S.1, S.2.1, S.2.2.1, S.2.2.2.1, S.2.2.2.2.1, S.2.2.2.2.2.1, S.2.2.2.2.2.2.1, S.2.2.2.2.2.2.2.1, up2 S.2.2.2.2.2.2.2.2 a i v)
/-- a new object of kind κ at a: all its fields 0 or null -/
abbrev nO (S : ZM) (a κ : Nat) : ZM := (up1 S.1 a κ, upz S.2.1 a 0, upz S.2.2.1 a none, upz S.2.2.2.1 a 0, S.2.2.2.2)
/-- a new array of kind κ and length n at a: 0 or null everywhere -/
abbrev nA (S : ZM) (a κ n : Nat) : ZM := (up1 S.1 a κ, S.2.1, S.2.2.1, S.2.2.2.1, up1 S.2.2.2.2.1 a n, up1 S.2.2.2.2.2.1 a (fun _ => 0), up1 S.2.2.2.2.2.2.1 a (fun _ => none), up1 S.2.2.2.2.2.2.2.1 a (fun _ => 0), up1 S.2.2.2.2.2.2.2.2 a (fun _ => 0))
abbrev zG : Type := (Nat → ClassId) × (Nat → Nat → Nat) × (Nat → ClassId)
abbrev zDD (G : zG) : va_G := (G.1, G.2.1)
abbrev ztys (G : zG) : List (ClassId × FieldType) := [(G.2.2 0, .int), (G.2.2 1, .char), (G.2.2 2, .int), (G.2.2 3, .int), (G.2.2 4, .int), (G.2.2 5, .object RX0), (G.2.2 6, .object RX1), (G.2.2 7, .object RX2), (G.2.2 8, .object RX3), (G.2.2 9, .array .int)]

/-- what the cell of a is, by its kind: 2 to 7 objects (their class), 10 to 19 arrays -/
def zcell (G : zG) (S : ZM) (a κ : Nat) : Option va_E :=
  if κ = 2 then some (.inr (2, [va_rf (mQ S 0 a), .int (mI S 1 a), .int (mI S 2 a)])) else
  if κ = 3 then some (.inr (3, [.int (mI S 3 a), .int (mI S 4 a), .int (mI S 5 a), va_rf (mQ S 6 a), va_rf (mQ S 7 a), .int (mI S 8 a), .int (mI S 9 a)])) else
  if κ = 4 then some (.inr (4, [.int (mI S 10 a), va_rf (mQ S 11 a), .int (mI S 12 a), va_rf (mQ S 13 a), va_rf (mQ S 14 a), va_rf (mQ S 15 a)])) else
  if κ = 5 then some (.inr (5, [.int (mI S 16 a), .int (mI S 17 a), .int (mI S 18 a), .int (mI S 19 a), .int (mI S 20 a), .int (mI S 21 a)])) else
  if κ = 6 then some (.inr (6, [va_rf (mQ S 22 a), va_rf (mQ S 23 a), va_rf (mQ S 24 a), va_rf (mQ S 25 a), .int (mI S 26 a), .int (mI S 27 a), .int (mI S 28 a), .int (mI S 29 a), .int (mI S 30 a), va_rf (mQ S 31 a), va_rf (mQ S 32 a), va_rf (mQ S 33 a), va_rf (mQ S 34 a), va_rf (mQ S 35 a), .int (mI S 36 a), .long (mJ S 37 a), .int (mI S 38 a)])) else
  if κ = 7 then some (.inr (7, [.int (mI S 39 a), .int (mI S 40 a), .int (mI S 41 a), va_rf (mQ S 42 a), va_rf (mQ S 43 a), va_rf (mQ S 44 a), va_rf (mQ S 45 a), va_rf (mQ S 46 a), va_rf (mQ S 47 a), .int (mI S 48 a), va_rf (mQ S 49 a), va_rf (mQ S 50 a), va_rf (mQ S 51 a), .int (mI S 52 a), va_rf (mQ S 53 a), va_rf (mQ S 54 a), va_rf (mQ S 55 a), va_rf (mQ S 56 a), .int (mI S 57 a), va_rf (mQ S 58 a), va_rf (mQ S 59 a), va_rf (mQ S 60 a), va_rf (mQ S 61 a), va_rf (mQ S 62 a), va_rf (mQ S 63 a), va_rf (mQ S 64 a), va_rf (mQ S 65 a), .int (mI S 66 a), .int (mI S 67 a), va_rf (mQ S 68 a), va_rf (mQ S 69 a), va_rf (mQ S 70 a), va_rf (mQ S 71 a), va_rf (mQ S 72 a)])) else
  if κ = 10 then some (.inl (G.2.2 0, mN S a, .inl (tI S a))) else
  if κ = 11 then some (.inl (G.2.2 1, mN S a, .inl (tI S a))) else
  if κ = 12 then some (.inl (G.2.2 2, mN S a, .inl (tI S a))) else
  if κ = 13 then some (.inl (G.2.2 3, mN S a, .inr (.inl (tJ S a)))) else
  if κ = 14 then some (.inl (G.2.2 4, mN S a, .inr (.inr (.inr (.inl (tD S a)))))) else
  if κ = 15 then some (.inl (G.2.2 5, mN S a, .inr (.inr (.inr (.inr (tQ S a)))))) else
  if κ = 16 then some (.inl (G.2.2 6, mN S a, .inr (.inr (.inr (.inr (tQ S a)))))) else
  if κ = 17 then some (.inl (G.2.2 7, mN S a, .inr (.inr (.inr (.inr (tQ S a)))))) else
  if κ = 18 then some (.inl (G.2.2 8, mN S a, .inr (.inr (.inr (.inr (tQ S a)))))) else
  if κ = 19 then some (.inl (G.2.2 9, mN S a, .inr (.inr (.inr (.inr (tQ S a)))))) else
  none
theorem zcell_2 (G : zG) (S : ZM) (a : Nat) : zcell G S a 2 = some (.inr (2, [va_rf (mQ S 0 a), .int (mI S 1 a), .int (mI S 2 a)])) := rfl
theorem zcell_3 (G : zG) (S : ZM) (a : Nat) : zcell G S a 3 = some (.inr (3, [.int (mI S 3 a), .int (mI S 4 a), .int (mI S 5 a), va_rf (mQ S 6 a), va_rf (mQ S 7 a), .int (mI S 8 a), .int (mI S 9 a)])) := rfl
theorem zcell_4 (G : zG) (S : ZM) (a : Nat) : zcell G S a 4 = some (.inr (4, [.int (mI S 10 a), va_rf (mQ S 11 a), .int (mI S 12 a), va_rf (mQ S 13 a), va_rf (mQ S 14 a), va_rf (mQ S 15 a)])) := rfl
theorem zcell_5 (G : zG) (S : ZM) (a : Nat) : zcell G S a 5 = some (.inr (5, [.int (mI S 16 a), .int (mI S 17 a), .int (mI S 18 a), .int (mI S 19 a), .int (mI S 20 a), .int (mI S 21 a)])) := rfl
theorem zcell_6 (G : zG) (S : ZM) (a : Nat) : zcell G S a 6 = some (.inr (6, [va_rf (mQ S 22 a), va_rf (mQ S 23 a), va_rf (mQ S 24 a), va_rf (mQ S 25 a), .int (mI S 26 a), .int (mI S 27 a), .int (mI S 28 a), .int (mI S 29 a), .int (mI S 30 a), va_rf (mQ S 31 a), va_rf (mQ S 32 a), va_rf (mQ S 33 a), va_rf (mQ S 34 a), va_rf (mQ S 35 a), .int (mI S 36 a), .long (mJ S 37 a), .int (mI S 38 a)])) := rfl
theorem zcell_7 (G : zG) (S : ZM) (a : Nat) : zcell G S a 7 = some (.inr (7, [.int (mI S 39 a), .int (mI S 40 a), .int (mI S 41 a), va_rf (mQ S 42 a), va_rf (mQ S 43 a), va_rf (mQ S 44 a), va_rf (mQ S 45 a), va_rf (mQ S 46 a), va_rf (mQ S 47 a), .int (mI S 48 a), va_rf (mQ S 49 a), va_rf (mQ S 50 a), va_rf (mQ S 51 a), .int (mI S 52 a), va_rf (mQ S 53 a), va_rf (mQ S 54 a), va_rf (mQ S 55 a), va_rf (mQ S 56 a), .int (mI S 57 a), va_rf (mQ S 58 a), va_rf (mQ S 59 a), va_rf (mQ S 60 a), va_rf (mQ S 61 a), va_rf (mQ S 62 a), va_rf (mQ S 63 a), va_rf (mQ S 64 a), va_rf (mQ S 65 a), .int (mI S 66 a), .int (mI S 67 a), va_rf (mQ S 68 a), va_rf (mQ S 69 a), va_rf (mQ S 70 a), va_rf (mQ S 71 a), va_rf (mQ S 72 a)])) := rfl
theorem zcell_10 (G : zG) (S : ZM) (a : Nat) : zcell G S a 10 = some (.inl (G.2.2 0, mN S a, .inl (tI S a))) := rfl
theorem zcell_11 (G : zG) (S : ZM) (a : Nat) : zcell G S a 11 = some (.inl (G.2.2 1, mN S a, .inl (tI S a))) := rfl
theorem zcell_12 (G : zG) (S : ZM) (a : Nat) : zcell G S a 12 = some (.inl (G.2.2 2, mN S a, .inl (tI S a))) := rfl
theorem zcell_13 (G : zG) (S : ZM) (a : Nat) : zcell G S a 13 = some (.inl (G.2.2 3, mN S a, .inr (.inl (tJ S a)))) := rfl
theorem zcell_14 (G : zG) (S : ZM) (a : Nat) : zcell G S a 14 = some (.inl (G.2.2 4, mN S a, .inr (.inr (.inr (.inl (tD S a)))))) := rfl
theorem zcell_15 (G : zG) (S : ZM) (a : Nat) : zcell G S a 15 = some (.inl (G.2.2 5, mN S a, .inr (.inr (.inr (.inr (tQ S a)))))) := rfl
theorem zcell_16 (G : zG) (S : ZM) (a : Nat) : zcell G S a 16 = some (.inl (G.2.2 6, mN S a, .inr (.inr (.inr (.inr (tQ S a)))))) := rfl
theorem zcell_17 (G : zG) (S : ZM) (a : Nat) : zcell G S a 17 = some (.inl (G.2.2 7, mN S a, .inr (.inr (.inr (.inr (tQ S a)))))) := rfl
theorem zcell_18 (G : zG) (S : ZM) (a : Nat) : zcell G S a 18 = some (.inl (G.2.2 8, mN S a, .inr (.inr (.inr (.inr (tQ S a)))))) := rfl
theorem zcell_19 (G : zG) (S : ZM) (a : Nat) : zcell G S a 19 = some (.inl (G.2.2 9, mN S a, .inr (.inr (.inr (.inr (tQ S a)))))) := rfl
theorem zcell_0 (G : zG) (S : ZM) (a : Nat) : zcell G S a 0 = none := rfl
theorem zcell_sI (G : zG) (S : ZM) (k x : Nat) (v : Int32) {b : Nat} (h : b ≠ x) (κ : Nat) : zcell G (sI S k x v) b κ = zcell G S b κ := by simp only [zcell, mK, mI, mQ, mJ, mN, tI, tQ, tJ, tD, sI, sQ, sJ, up2_a h]
theorem zcell_sQ (G : zG) (S : ZM) (k x : Nat) (v : Option Nat) {b : Nat} (h : b ≠ x) (κ : Nat) : zcell G (sQ S k x v) b κ = zcell G S b κ := by simp only [zcell, mK, mI, mQ, mJ, mN, tI, tQ, tJ, tD, sI, sQ, sJ, up2_a h]
theorem zcell_sJ (G : zG) (S : ZM) (k x : Nat) (v : Int64) {b : Nat} (h : b ≠ x) (κ : Nat) : zcell G (sJ S k x v) b κ = zcell G S b κ := by simp only [zcell, mK, mI, mQ, mJ, mN, tI, tQ, tJ, tD, sI, sQ, sJ, up2_a h]
theorem up2f {α : Type} {f : Nat → Nat → α} {x b i : Nat} {v : α} (h : b ≠ x) : up2 f x i v b = f b := funext fun j => by simp [up2, h]
theorem zcell_eI (G : zG) (S : ZM) (x i : Nat) (v : Int32) {b : Nat} (h : b ≠ x) (κ : Nat) : zcell G (eI S x i v) b κ = zcell G S b κ := by simp only [zcell, mK, mI, mQ, mJ, mN, tI, tQ, tJ, tD, eI, eQ, eJ, eD, up2f h]
theorem zcell_eQ (G : zG) (S : ZM) (x i : Nat) (v : Option Nat) {b : Nat} (h : b ≠ x) (κ : Nat) : zcell G (eQ S x i v) b κ = zcell G S b κ := by simp only [zcell, mK, mI, mQ, mJ, mN, tI, tQ, tJ, tD, eI, eQ, eJ, eD, up2f h]
theorem zcell_eJ (G : zG) (S : ZM) (x i : Nat) (v : Int64) {b : Nat} (h : b ≠ x) (κ : Nat) : zcell G (eJ S x i v) b κ = zcell G S b κ := by simp only [zcell, mK, mI, mQ, mJ, mN, tI, tQ, tJ, tD, eI, eQ, eJ, eD, up2f h]
theorem zcell_eD (G : zG) (S : ZM) (x i : Nat) (v : UInt64) {b : Nat} (h : b ≠ x) (κ : Nat) : zcell G (eD S x i v) b κ = zcell G S b κ := by simp only [zcell, mK, mI, mQ, mJ, mN, tI, tQ, tJ, tD, eI, eQ, eJ, eD, up2f h]
theorem zcell_nO (G : zG) (S : ZM) (x κ0 : Nat) {b : Nat} (h : b ≠ x) (κ : Nat) : zcell G (nO S x κ0) b κ = zcell G S b κ := by simp only [zcell, mK, mI, mQ, mJ, mN, tI, tQ, tJ, tD, nO, upz_ne h]
theorem zcell_nA (G : zG) (S : ZM) (x κ0 n : Nat) {b : Nat} (h : b ≠ x) (κ : Nat) : zcell G (nA S x κ0 n) b κ = zcell G S b κ := by simp only [zcell, mK, mI, mQ, mJ, mN, tI, tQ, tJ, tD, nA, up1_ne h]
/-- the memory S lies in the heap, in A -/
def zH (G : zG) (A : Nat → Prop) (S : ZM) (H : Heap) : Prop := ∀ (a : Nat) (e : va_E), zcell G S a (mK S a) = some e → va_at (zDD G) vwCl (a, e) H ∧ A a
theorem zH.write {G : zG} {A : Nat → Prop} {S S' : ZM} {H H1 : Heap} {a : Nat} (hH : zH G A S H) (ho : ∀ q : Nat, q ≠ a → H1[q]? = H[q]?) (hc : ∀ b : Nat, b ≠ a → zcell G S' b (mK S' b) = zcell G S b (mK S b)) (ha : ∀ e : va_E, zcell G S' a (mK S' a) = some e → va_at (zDD G) vwCl (a, e) H1 ∧ A a) : zH G A S' H1 := by
  intro b e hb
  by_cases h : b = a
  · subst h; exact ha e hb
  · rw [hc b h] at hb
    exact ⟨(hH b e hb).1.kept (ho b h), (hH b e hb).2⟩
theorem zH.make {G : zG} {A : Nat → Prop} {S S' : ZM} {H H1 : Heap} (hH : zH G A S H) (ho : ∀ q : Nat, q < H.size → H1[q]? = H[q]?) (hc : ∀ b : Nat, b ≠ H.size → zcell G S' b (mK S' b) = zcell G S b (mK S b)) (ha : ∀ e : va_E, zcell G S' H.size (mK S' H.size) = some e → va_at (zDD G) vwCl (H.size, e) H1 ∧ A H.size) : zH G A S' H1 := by
  intro b e hb
  by_cases h : b = H.size
  · subst h; exact ha e hb
  · rw [hc b h] at hb
    exact ⟨(hH b e hb).1.kept (ho b (hH b e hb).1.lt), (hH b e hb).2⟩
theorem zH.kept {G : zG} {A : Nat → Prop} {S : ZM} {H H1 : Heap} (hH : zH G A S H) (ho : ∀ q : Nat, A q → q < H.size → H1[q]? = H[q]?) : zH G A S H1 := fun b e hb => ⟨(hH b e hb).1.kept (ho b (hH b e hb).2 (hH b e hb).1.lt), (hH b e hb).2⟩
/-- locals, place by place: none where nothing is known -/
def zl : Nat → List (Option ZV) → List (Nat × Value)
  | _, [] => []
  | i, none :: t => zl (i + 1) t
  | i, some v :: t => (i, zv v) :: zl (i + 1) t
theorem zl_mem {v : ZV} : ∀ {l : List (Option ZV)} {i k : Nat}, l[k]? = some (some v) → (i + k, zv v) ∈ zl i l
  | [], _, _, h => by simp at h
  | none :: t, i, 0, h => by simp at h
  | some x :: t, i, 0, h => by simp at h; subst h; simp [zl]
  | none :: t, i, k + 1, h => by
    have := zl_mem (l := t) (i := i + 1) (k := k) (by simpa using h)
    rw [show i + (k + 1) = i + 1 + k by omega]; simpa [zl] using this
  | some x :: t, i, k + 1, h => by
    have := zl_mem (l := t) (i := i + 1) (k := k) (by simpa using h)
    rw [show i + (k + 1) = i + 1 + k by omega]; simp only [zl]; exact List.mem_cons_of_mem _ this
theorem zl_of : ∀ {l : List (Option ZV)} {i : Nat} {q : Nat × Value}, q ∈ zl i l → ∃ (k : Nat) (v : ZV), l[k]? = some (some v) ∧ q = (i + k, zv v)
  | [], _, _, h => by simp [zl] at h
  | none :: t, i, q, h => by
    obtain ⟨k, v, h1, h2⟩ := zl_of (l := t) (i := i + 1) (q := q) h
    exact ⟨k + 1, v, by simpa using h1, by rw [h2, show i + 1 + k = i + (k + 1) by omega]⟩
  | some x :: t, i, q, h => by
    simp only [zl, List.mem_cons] at h
    rcases h with h | h
    · exact ⟨0, x, rfl, h⟩
    · obtain ⟨k, v, h1, h2⟩ := zl_of (l := t) (i := i + 1) (q := q) h
      exact ⟨k + 1, v, by simpa using h1, by rw [h2, show i + 1 + k = i + (k + 1) by omega]⟩
def zL (la : Array Slot) (nL : Nat) (ls : List (Option ZV)) : Prop := lv_has la nL (zl 0 ls)
theorem zL.at {la : Array Slot} {nL : Nat} {ls : List (Option ZV)} (h : zL la nL ls) {k : Nat} {v : ZV} (hk : ls[k]? = some (some v)) : la[k]? = some (.val (zv v)) := by
  have := h.2.2 (k, zv v) (by have := zl_mem (l := ls) (i := 0) (k := k) hk; simpa using this)
  exact this
/-- fewer known places -/
theorem zL.sub {la : Array Slot} {nL : Nat} {ls ls' : List (Option ZV)} (h : zL la nL ls) (hs : ∀ (k : Nat) (v : ZV), ls'[k]? = some (some v) → ls[k]? = some (some v)) : zL la nL ls' := by
  refine ⟨h.1, h.2.1, fun q hq => ?_⟩
  obtain ⟨k, v, h1, h2⟩ := zl_of hq
  rw [h2]; simp only [Nat.zero_add]
  exact h.at (hs k v h1)
/-- locals with a narrow value stored -/
def zst1 : List (Option ZV) → Nat → ZV → List (Option ZV)
  | [], _, _ => []
  | _ :: t, 0, v => some v :: t
  | none :: t, k + 1, v => none :: zst1 t k v
  | some x :: t, 0 + 1, v => (if zwide x = true then none else some x) :: zst1 t 0 v
  | some x :: t, k + 2, v => some x :: zst1 t (k + 1) v
def zst2 : List (Option ZV) → Nat → ZV → List (Option ZV)
  | [], _, _ => []
  | [_], _, _ => []
  | _ :: _ :: t, 0, v => some v :: none :: t
  | none :: b :: t, k + 1, v => none :: zst2 (b :: t) k v
  | some x :: b :: t, 0 + 1, v => (if zwide x = true then none else some x) :: zst2 (b :: t) 0 v
  | some x :: b :: t, k + 2, v => some x :: zst2 (b :: t) (k + 1) v

theorem zst1_at : ∀ {l : List (Option ZV)} {i k : Nat} {v w : ZV}, (zst1 l i v)[k]? = some (some w) → (k = i ∧ w = v) ∨ (k ≠ i ∧ l[k]? = some (some w) ∧ ¬ (k + 1 = i ∧ zwide w = true))
  | [], i, k, v, w, h => by simp [zst1] at h
  | x :: t, 0, 0, v, w, h => by simp [zst1] at h; exact Or.inl ⟨rfl, h.symm⟩
  | x :: t, 0, k + 1, v, w, h => by simp [zst1] at h; exact Or.inr ⟨by omega, by simpa using h, by omega⟩
  | none :: t, i + 1, 0, v, w, h => by simp [zst1] at h
  | none :: t, i + 1, k + 1, v, w, h => by
    simp only [zst1, List.getElem?_cons_succ] at h
    rcases zst1_at h with ⟨h1, h2⟩ | ⟨h1, h2, h3⟩
    · exact Or.inl ⟨by omega, h2⟩
    · exact Or.inr ⟨by omega, by simpa using h2, by rintro ⟨h4, h5⟩; exact h3 ⟨by omega, h5⟩⟩
  | some x :: t, 0 + 1, 0, v, w, h => by
    simp only [zst1, List.getElem?_cons_zero, Option.some.injEq] at h
    by_cases hx : zwide x = true
    · rw [if_pos hx] at h; cases h
    · rw [if_neg hx] at h; cases h
      exact Or.inr ⟨by omega, rfl, fun q => hx q.2⟩
  | some x :: t, 0 + 1, k + 1, v, w, h => by
    simp only [zst1, List.getElem?_cons_succ] at h
    rcases zst1_at h with ⟨h1, h2⟩ | ⟨h1, h2, h3⟩
    · exact Or.inl ⟨by omega, h2⟩
    · exact Or.inr ⟨by omega, by simpa using h2, by omega⟩
  | some x :: t, i + 2, 0, v, w, h => by
    simp only [zst1, List.getElem?_cons_zero] at h
    exact Or.inr ⟨by omega, by simpa using h, by omega⟩
  | some x :: t, i + 2, k + 1, v, w, h => by
    simp only [zst1, List.getElem?_cons_succ] at h
    rcases zst1_at h with ⟨h1, h2⟩ | ⟨h1, h2, h3⟩
    · exact Or.inl ⟨by omega, h2⟩
    · exact Or.inr ⟨by omega, by simpa using h2, by rintro ⟨h4, h5⟩; exact h3 ⟨by omega, h5⟩⟩
theorem zst2_at : ∀ {l : List (Option ZV)} {i k : Nat} {v w : ZV}, (zst2 l i v)[k]? = some (some w) → (k = i ∧ w = v) ∨ (k ≠ i ∧ k ≠ i + 1 ∧ l[k]? = some (some w) ∧ ¬ (k + 1 = i ∧ zwide w = true))
  | [], i, k, v, w, h => by simp [zst2] at h
  | [_], i, k, v, w, h => by simp [zst2] at h
  | x :: y :: t, 0, 0, v, w, h => by simp [zst2] at h; exact Or.inl ⟨rfl, h.symm⟩
  | x :: y :: t, 0, 1, v, w, h => by simp [zst2] at h
  | x :: y :: t, 0, k + 2, v, w, h => by simp [zst2] at h; exact Or.inr ⟨by omega, by omega, by simpa using h, by omega⟩
  | none :: y :: t, i + 1, 0, v, w, h => by simp [zst2] at h
  | none :: y :: t, i + 1, k + 1, v, w, h => by
    simp only [zst2, List.getElem?_cons_succ] at h
    rcases zst2_at h with ⟨h1, h2⟩ | ⟨h1, h0, h2, h3⟩
    · exact Or.inl ⟨by omega, h2⟩
    · exact Or.inr ⟨by omega, by omega, by simpa using h2, by rintro ⟨h4, h5⟩; exact h3 ⟨by omega, h5⟩⟩
  | some x :: y :: t, 0 + 1, 0, v, w, h => by
    simp only [zst2, List.getElem?_cons_zero, Option.some.injEq] at h
    by_cases hx : zwide x = true
    · rw [if_pos hx] at h; cases h
    · rw [if_neg hx] at h; cases h
      exact Or.inr ⟨by omega, by omega, rfl, fun q => hx q.2⟩
  | some x :: y :: t, 0 + 1, k + 1, v, w, h => by
    simp only [zst2, List.getElem?_cons_succ] at h
    rcases zst2_at h with ⟨h1, h2⟩ | ⟨h1, h0, h2, h3⟩
    · exact Or.inl ⟨by omega, h2⟩
    · exact Or.inr ⟨by omega, by omega, by simpa using h2, by omega⟩
  | some x :: y :: t, i + 2, 0, v, w, h => by
    simp only [zst2, List.getElem?_cons_zero] at h
    exact Or.inr ⟨by omega, by omega, by simpa using h, by omega⟩
  | some x :: y :: t, i + 2, k + 1, v, w, h => by
    simp only [zst2, List.getElem?_cons_succ] at h
    rcases zst2_at h with ⟨h1, h2⟩ | ⟨h1, h0, h2, h3⟩
    · exact Or.inl ⟨by omega, h2⟩
    · exact Or.inr ⟨by omega, by omega, by simpa using h2, by rintro ⟨h4, h5⟩; exact h3 ⟨by omega, h5⟩⟩
theorem zL.st1 {la la' : Array Slot} {nL i : Nat} {ls : List (Option ZV)} {v : ZV} (h : zL la nL ls) (h' : lv_has la' nL ((i, zv v) :: (zl 0 ls).filter (fun q => !(q.1 == i) && !(q.1 + 1 == i && q.2.category == 2)))) : zL la' nL (zst1 ls i v) := by
  refine ⟨h'.1, h'.2.1, fun q hq => ?_⟩
  obtain ⟨k, w, h1, h2⟩ := zl_of hq
  refine h'.2.2 q ?_
  rw [h2]; simp only [Nat.zero_add]
  rcases zst1_at h1 with ⟨e1, e2⟩ | ⟨e1, e2, e3⟩
  · rw [e1, e2]; exact List.mem_cons_self
  · refine List.mem_cons_of_mem _ (List.mem_filter.mpr ⟨by have := zl_mem (l := ls) (i := 0) (k := k) e2; simpa using this, ?_⟩)
    rw [zv_cat]
    simp only [Bool.and_eq_true, Bool.not_eq_true', beq_eq_false_iff_ne, ne_eq, Bool.and_eq_false_iff]
    refine ⟨e1, ?_⟩
    by_cases hz : zwide w = true
    · exact Or.inl (fun q => e3 ⟨q, hz⟩)
    · right; rw [if_neg hz]; decide
theorem zL.st2 {la la' : Array Slot} {nL i : Nat} {ls : List (Option ZV)} {v : ZV} (h : zL la nL ls) (h' : lv_has la' nL ((i, zv v) :: (zl 0 ls).filter (fun q => !(q.1 == i) && (!(q.1 == i + 1) && !(q.1 + 1 == i && q.2.category == 2))))) : zL la' nL (zst2 ls i v) := by
  refine ⟨h'.1, h'.2.1, fun q hq => ?_⟩
  obtain ⟨k, w, h1, h2⟩ := zl_of hq
  refine h'.2.2 q ?_
  rw [h2]; simp only [Nat.zero_add]
  rcases zst2_at h1 with ⟨e1, e2⟩ | ⟨e1, e0, e2, e3⟩
  · rw [e1, e2]; exact List.mem_cons_self
  · refine List.mem_cons_of_mem _ (List.mem_filter.mpr ⟨by have := zl_mem (l := ls) (i := 0) (k := k) e2; simpa using this, ?_⟩)
    rw [zv_cat]
    simp only [Bool.and_eq_true, Bool.not_eq_true', beq_eq_false_iff_ne, ne_eq, Bool.and_eq_false_iff]
    refine ⟨e1, e0, ?_⟩
    by_cases hz : zwide w = true
    · exact Or.inl (fun q => e3 ⟨q, hz⟩)
    · right; rw [if_neg hz]; decide

