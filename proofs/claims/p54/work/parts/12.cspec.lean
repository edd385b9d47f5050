/-! sets of tracks, sums, chains: the class's loops in words -/
def sF (p : Nat → Bool) : Nat → Int32
  | 0 => 0
  | i + 1 => if p i = true then sF p i ||| (1 <<< (nI i &&& 31)) else sF p i
theorem sF_yes {p : Nat → Bool} {i : Nat} (h : p i = true) : sF p (i + 1) = sF p i ||| (1 <<< (nI i &&& 31)) := if_pos h
theorem sF_no {p : Nat → Bool} {i : Nat} (h : p i = false) : sF p (i + 1) = sF p i := if_neg (by rw [h]; decide)
def smF (p : Nat → Bool) (f : Nat → Int32) : Nat → Int32
  | 0 => 0
  | i + 1 => if p i = true then smF p f i + f i else smF p f i
theorem smF_yes {p : Nat → Bool} {f : Nat → Int32} {i : Nat} (h : p i = true) : smF p f (i + 1) = smF p f i + f i := if_pos h
theorem smF_no {p : Nat → Bool} {f : Nat → Int32} {i : Nat} (h : p i = false) : smF p f (i + 1) = smF p f i := if_neg (by rw [h]; decide)
/-- there, and q of it -/
def pS (S : ZM) (L : Nat → Nat) (q : Nat → Nat → Bool) (i : Nat) : Bool := prS S L i && q i (tad S L i)
theorem pS_none {S : ZM} {L : Nat → Nat} {q : Nat → Nat → Bool} {i : Nat} (h : tQ S (L 1) i = none) : pS S L q i = false := by simp [pS, prS, h]
theorem pS_some {S : ZM} {L : Nat → Nat} {q : Nat → Nat → Bool} {i a : Nat} (h : tQ S (L 1) i = some a) : pS S L q i = q i a := by simp [pS, prS, tad, h]
/-- a rule about numbers, of a track -/
def mnS (S : ZM) (L : Nat → Nat) (kind asked : Int32) (a : Nat) : Bool :=
  if kind = 1 then decide (asked ≤ mI S 18 a) else if kind = 2 then decide (mI S 19 a ≤ asked) else if kind = 3 then decide (mI S 17 a ≤ asked) else if kind = 4 then (!decide (mI S 20 a = -1) && decide (mI S 36 (L 0) - mI S 20 a ≤ asked)) else false
/-- along the tags that a tag became -/
def bmS (S : ZM) : Nat → Option Nat → Option Nat
  | 0, t => t
  | f + 1, t => match t with
    | none => none
    | some a => match mQ S 13 a with
      | none => some a
      | some b => bmS S f (some b)
theorem bmS_none (S : ZM) : ∀ f, bmS S f none = none
  | 0 => rfl
  | _ + 1 => rfl
theorem bmS_stop {S : ZM} {a : Nat} (h : mQ S 13 a = none) : ∀ f, bmS S f (some a) = some a
  | 0 => rfl
  | f + 1 => by simp [bmS, h]
theorem bmS_step {S : ZM} {a b f : Nat} (h : mQ S 13 a = some b) : bmS S (f + 1) (some a) = bmS S f (some b) := by simp [bmS, h]
def isTag (S : ZM) (L : Nat → Nat) (a : Nat) : Prop := ∃ i : Nat, i < 16 ∧ tQ S (L 2) i = some a
def cGb (S : ZM) (L : Nat → Nat) : Prop := ∀ a b : Nat, isTag S L a → mQ S 13 a = some b → isTag S L b
def cLr (S : ZM) (L : Nat → Nat) : Prop := ∀ i a : Nat, i < 8 → tQ S (L 4) i = some a → mK S a = 2 ∧ ∃ r : Nat, mQ S 0 a = some r ∧ mK S r = 3
/-- the lists that list i's rule asks for -/
def lsS (S : ZM) (L : Nat → Nat) (i : Nat) : Option Int32 := (tQ S (L 4) i).map (fun a => mI S 9 ((mQ S 0 a).getD 0))
def wlI (f : Nat → Option Int32) : Nat → Int32 → Int32
  | 0, s => s
  | i + 1, s => match f i with
    | none => wlI f i s
    | some b => if hasB (wlI f i s) (nI i) = true then wlI f i s ||| b else wlI f i s
def wlO (f : Nat → Option Int32) : Nat → Int32 → Int32
  | 0, s => s
  | j + 1, s => wlI f 8 (wlO f j s)
theorem wlI_none {f : Nat → Option Int32} {i : Nat} {s : Int32} (h : f i = none) : wlI f (i + 1) s = wlI f i s := by simp [wlI, h]
theorem wlI_no {f : Nat → Option Int32} {i : Nat} {s b : Int32} (h : f i = some b) (h2 : hasB (wlI f i s) (nI i) = false) : wlI f (i + 1) s = wlI f i s := by simp [wlI, h, h2]
theorem wlI_yes {f : Nat → Option Int32} {i : Nat} {s b : Int32} (h : f i = some b) (h2 : hasB (wlI f i s) (nI i) = true) : wlI f (i + 1) s = wlI f i s ||| b := by simp [wlI, h, h2]
theorem n24 {i : Nat} (h : i < 24) : ¬ (24 : Int32) ≤ nI i := nI_ge (b := 24) h (by decide)
theorem n16 {i : Nat} (h : i < 16) : ¬ (16 : Int32) ≤ nI i := nI_ge (b := 16) h (by decide)
theorem n8 {i : Nat} (h : i < 8) : ¬ (8 : Int32) ≤ nI i := nI_ge (b := 8) h (by decide)
