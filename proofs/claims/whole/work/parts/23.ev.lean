/-! What a clause says: its tokens over a pile. F: the six letters. -/
def tkv (t : Nat × Nat × Nat) (F : Nat → Int) : Bool := if t.2.1 = 0 then decide (F t.1 < (t.2.2 : Int)) else if t.2.1 = 1 then decide (F t.1 = (t.2.2 : Int)) else decide ((t.2.2 : Int) < F t.1)
def tks (t : Nat × Nat × Nat) (F : Nat → Int) (s : List Bool) : List Bool :=
  if t.1 < 6 then tkv t F :: s else if t.1 = 6 then (match s with
    | a :: r => (!a) :: r
    | [] => []) else (match s with
    | a :: b :: r => (if t.1 = 7 then b && a else b || a) :: r
    | s => s)
def evl (T : Nat → Nat × Nat × Nat) (F : Nat → Int) : Nat → Nat → List Bool → List Bool
  | 0, _, s => s
  | n + 1, k, s => evl T F n (k + 1) (tks (T k) F s)
/-- clause i of a square holds -/
def clv (Q : sq_T) (F : Nat → Int) (i : Nat) : Bool := (evl (qT Q) F (qE Q i - qF Q i) (qF Q i) []).headD false
def bI (b : Bool) : Int32 := if b then 1 else 0
def stk (x : Int32) (s : List Bool) : Prop := ∀ i, i < 32 → x.toBitVec.getLsbD i = s.getD i false
theorem stk_0 : stk 0 [] := by
  intro i hi
  simp [show (0 : Int32).toBitVec = 0#32 from rfl]
theorem sh1 : ((1 : Int32) &&& 31).toBitVec.smod 32 = 1#32 := by decide
theorem stk_shl {x : Int32} {i : Nat} (hi : i < 32) : (x <<< ((1 : Int32) &&& 31)).toBitVec.getLsbD i = (!decide (i < 1) && x.toBitVec.getLsbD (i - 1)) := by
  rw [Int32.toBitVec_shiftLeft, sh1, BitVec.shiftLeft_eq', BitVec.getLsbD_shiftLeft]
  simp [hi]
theorem stk_shr {x : Int32} {i : Nat} (hi : i < 31) : (x >>> ((1 : Int32) &&& 31)).toBitVec.getLsbD i = x.toBitVec.getLsbD (i + 1) := by
  rw [Int32.toBitVec_shiftRight, sh1, BitVec.sshiftRight', BitVec.getLsbD_sshiftRight]
  have h1 : (1#32).toNat = 1 := rfl
  rw [h1]
  simp [show i + 1 < 32 by omega, show ¬ 32 ≤ i by omega, Nat.add_comm]
theorem stk_shr31 {x : Int32} (hx : x.toBitVec.getLsbD 31 = false) : (x >>> ((1 : Int32) &&& 31)).toBitVec.getLsbD 31 = false := by
  rw [Int32.toBitVec_shiftRight, sh1, BitVec.sshiftRight', BitVec.getLsbD_sshiftRight]
  have h1 : (1#32).toNat = 1 := rfl
  rw [h1]
  simpa [BitVec.msb_eq_getLsbD_last] using hx
theorem bit1 {i : Nat} (hi : i < 32) : (1 : Int32).toBitVec.getLsbD i = decide (i = 0) := by
  have : (1 : Int32).toBitVec = 1#32 := rfl
  rw [this]
  simp [BitVec.getLsbD_one]
theorem bitm2 {i : Nat} (hi : i < 32) : (-2 : Int32).toBitVec.getLsbD i = !decide (i = 0) := by
  have : (-2 : Int32).toBitVec = ~~~ 1#32 := by decide
  rw [this, BitVec.getLsbD_not]
  simp [hi, BitVec.getLsbD_one]
theorem bit0 {i : Nat} : (0 : Int32).toBitVec.getLsbD i = false := by
  have : (0 : Int32).toBitVec = 0#32 := rfl
  rw [this]
  simp
theorem stk_push1 {x : Int32} {s : List Bool} (h : stk x s) : stk ((x <<< ((1 : Int32) &&& 31)) ||| 1) (true :: s) := by
  intro i hi
  rw [Int32.toBitVec_or, BitVec.getLsbD_or, stk_shl hi, bit1 hi]
  cases i with
  | zero => simp
  | succ i => simp [h i (by omega)]
theorem stk_push0 {x : Int32} {s : List Bool} (h : stk x s) : stk ((x <<< ((1 : Int32) &&& 31)) ||| 0) (false :: s) := by
  intro i hi
  rw [Int32.toBitVec_or, BitVec.getLsbD_or, stk_shl hi, bit0]
  cases i with
  | zero => simp
  | succ i => simp [h i (by omega)]
theorem stk_not {x : Int32} {a : Bool} {r : List Bool} (h : stk x (a :: r)) : stk (x ^^^ 1) ((!a) :: r) := by
  intro i hi
  rw [Int32.toBitVec_xor, BitVec.getLsbD_xor, h i hi, bit1 hi]
  cases i with
  | zero => simp
  | succ i => simp
theorem stk_and {x : Int32} {a b : Bool} {r : List Bool} (h : stk x (a :: b :: r)) (hr : r.length ≤ 20) : stk ((x >>> ((1 : Int32) &&& 31)) &&& (x ||| (-2))) ((b && a) :: r) := by
  intro i hi
  rw [Int32.toBitVec_and, BitVec.getLsbD_and, Int32.toBitVec_or, BitVec.getLsbD_or, bitm2 hi, h i hi]
  by_cases e : i < 31
  · rw [stk_shr e, h (i + 1) (by omega)]
    cases i with
    | zero => simp
    | succ i => simp
  · have e : i = 31 := by omega
    subst e
    rw [stk_shr31 (by rw [h 31 (by omega)]; simp [List.getElem?_eq_none (show r.length ≤ 29 by omega)])]
    simp [List.getElem?_eq_none (show r.length ≤ 30 by omega)]
theorem stk_or {x : Int32} {a b : Bool} {r : List Bool} (h : stk x (a :: b :: r)) (hr : r.length ≤ 20) : stk ((x >>> ((1 : Int32) &&& 31)) ||| (x &&& 1)) ((b || a) :: r) := by
  intro i hi
  rw [Int32.toBitVec_or, BitVec.getLsbD_or, Int32.toBitVec_and, BitVec.getLsbD_and, bit1 hi, h i hi]
  by_cases e : i < 31
  · rw [stk_shr e, h (i + 1) (by omega)]
    cases i with
    | zero => simp
    | succ i => simp
  · have e : i = 31 := by omega
    subst e
    rw [stk_shr31 (by rw [h 31 (by omega)]; simp [List.getElem?_eq_none (show r.length ≤ 29 by omega)])]
    simp [List.getElem?_eq_none (show r.length ≤ 30 by omega)]
theorem stk_hd {x : Int32} {s : List Bool} (h : stk x s) : (x &&& 1).toInt = if s.headD false = true then 1 else 0 := by
  have : x &&& 1 = bI (s.headD false) := by
    apply Int32.toBitVec_inj.mp
    apply BitVec.eq_of_getLsbD_eq
    intro i hi
    rw [Int32.toBitVec_and, BitVec.getLsbD_and, bit1 hi, h i hi]
    cases s with
    | nil => simp [bI, bit0]
    | cons a r =>
      cases i with
      | zero => cases a <;> simp [bI]
      | succ i => cases a <;> simp [bI, bit0, bit1 hi]
  rw [this]
  cases s.headD false <;> rfl
/-- the pile of the reference -/
def pil (f : Nat → Int32) : List Bool → Prop
  | [] => True
  | a :: r => f r.length = bI a ∧ pil f r
theorem pil_up {f f' : Nat → Int32} {s : List Bool} (h : pil f s) (e : ∀ j, j < s.length → f' j = f j) : pil f' s := by
  induction s with
  | nil => trivial
  | cons a r ih =>
    refine ⟨(e _ (by simp)).trans h.1, ih h.2 (fun j hj => e j (by simp only [List.length_cons]; omega))⟩
