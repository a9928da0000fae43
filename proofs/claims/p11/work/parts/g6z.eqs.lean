/-! what a program compares: shapes -/
def q_ds (a b : zsd) : Bool := match a, b with
  | .inl x, .inl y => decide (x = y)
  | .inr x, .inr y => Nat.beq x y
  | _, _ => false
theorem q_ds_ok {a b : zsd} (h : q_ds a b = true) : a = b := by
  cases a with
  | inl x =>
    cases b with
    | inl y => exact congrArg Sum.inl (of_decide_eq_true (p := x = y) h)
    | inr y => exact Bool.noConfusion (show false = true from h)
  | inr x =>
    cases b with
    | inl y => exact Bool.noConfusion (show false = true from h)
    | inr y => exact congrArg Sum.inr (Nat.eq_of_beq_eq_true h)
def q_l {α : Type} (f : α → α → Bool) : List α → List α → Bool
  | [], [] => true
  | a :: l, b :: m => f a b && q_l f l m
  | _, _ => false
theorem q_l_ok {α : Type} {f : α → α → Bool} (hf : ∀ {a b : α}, f a b = true → a = b) : ∀ {l m : List α}, q_l f l m = true → l = m
  | [], [], _ => rfl
  | a :: l, b :: m, h => by
    unfold q_l at h
    rw [Bool.and_eq_true] at h
    rw [hf h.1, q_l_ok hf h.2]
  | [], _ :: _, h => Bool.noConfusion (show false = true from h)
  | _ :: _, [], h => Bool.noConfusion (show false = true from h)
def q_ii (a b : Int × Int) : Bool := decide (a.1 = b.1) && decide (a.2 = b.2)
theorem q_ii_ok {a b : Int × Int} (h : q_ii a b = true) : a = b := by
  unfold q_ii at h
  rw [Bool.and_eq_true] at h
  exact Prod.ext (of_decide_eq_true h.1) (of_decide_eq_true h.2)
def q_sh (a b : zsh) : Bool := match a, b with
  | .inl (c, ds), .inl (c', ds') => Nat.beq c c' && q_l q_ds ds ds'
  | .inr (t, n), .inr (t', n') => decide (t = t') && Nat.beq n n'
  | _, _ => false
theorem q_sh_ok {a b : zsh} (h : q_sh a b = true) : a = b := by
  cases a with
  | inl x =>
    obtain ⟨c, ds⟩ := x
    cases b with
    | inl y =>
      obtain ⟨c', ds'⟩ := y
      have h : (Nat.beq c c' && q_l q_ds ds ds') = true := h
      rw [Bool.and_eq_true] at h
      rw [Nat.eq_of_beq_eq_true h.1, q_l_ok q_ds_ok h.2]
    | inr y => exact Bool.noConfusion (show false = true from h)
  | inr x =>
    obtain ⟨t, n⟩ := x
    cases b with
    | inl y => exact Bool.noConfusion (show false = true from h)
    | inr y =>
      obtain ⟨t', n'⟩ := y
      have h : (decide (t = t') && Nat.beq n n') = true := h
      rw [Bool.and_eq_true] at h
      rw [of_decide_eq_true h.1, Nat.eq_of_beq_eq_true h.2]
def q_x (a b : kx) : Bool := q_sh a.1 b.1 && (q_l q_ii a.2.1 b.2.1 && (q_l Nat.beq a.2.2.1 b.2.2.1 && Nat.beq a.2.2.2 b.2.2.2))
theorem q_x_ok {a b : kx} (h : q_x a b = true) : a = b := by
  unfold q_x at h
  rw [Bool.and_eq_true, Bool.and_eq_true, Bool.and_eq_true] at h
  exact Prod.ext (q_sh_ok h.1) (Prod.ext (q_l_ok q_ii_ok h.2.1) (Prod.ext (q_l_ok Nat.eq_of_beq_eq_true h.2.2.1) (Nat.eq_of_beq_eq_true h.2.2.2)))
def q_o (a : Option kx) (b : kx) : Bool := match a with
  | some x => q_x x b
  | none => false
theorem q_o_ok {a : Option kx} {b : kx} (h : q_o a b = true) : a = some b := by
  cases a with
  | none => exact Bool.noConfusion (show false = true from h)
  | some x => exact congrArg some (q_x_ok h)
