/-! the reference: rows that split a goal -/
theorem RS_o {P H : hp} {F : Nat → Int} {n m o : Nat} (h : RS P H F n m) (ho : (H.1 1871) 0 = (o : Int)) : o < 40 ∧ (H.1 1872) o = 1 ∧ gok P H o := by
  obtain ⟨g, a1, a2, a3, a4⟩ := h.2.1 0 (by have := h.1; omega)
  have : g = o := by omega
  subst this
  exact ⟨a2, a3, a4⟩
/-- a row is under way: m goals are made, all good if b -/
def RW (P H : hp) (n m : Nat) (b : Int) : Prop := RS P H (H.1 1885) n m ∧ (H.1 1826 95) = (m : Int) ∧ (b = 1 → GF P H (H.1 1885) m)
/-- the newest one is in slot g -/
def RG (P H : hp) (n m g : Nat) (b : Int) : Prop := RS P H (H.1 1885) n m ∧ (H.1 1826 95) = (m : Int) ∧ (1 ≤ m ∧ (H.1 1885) (m - 1) = (g : Int)) ∧ GF P H (H.1 1885) (m - 1) ∧ (b = 1 → gok P H g)
theorem RG_RW {P H : hp} {n m g : Nat} {b : Int} (h : RG P H n m g b) : RW P H n m b := by
  obtain ⟨h1, h2, h3, h4, h5⟩ := h
  refine ⟨h1, h2, fun q => ?_⟩
  have := GF_up h4 h3.2 (h5 q)
  rw [show m - 1 + 1 = m by omega] at this
  exact this
theorem RG_ne {P H : hp} {n m g o : Nat} {b : Int} (h : RG P H n m g b) (ho : (H.1 1871) 0 = (o : Int)) : g ≠ o := by
  intro q
  refine h.1.2.2.2.2.2.1 0 (m - 1) (by have := h.1.1; omega) (by have := h.2.2.1; omega) ?_
  rw [ho, h.2.2.1.2, q]
theorem RG_lt {P H : hp} {n m g : Nat} {b : Int} (h : RG P H n m g b) : g < 40 := by
  obtain ⟨x, a1, a2, -⟩ := h.1.2.2.1 (m - 1) (by have := h.2.2.1; omega)
  have := h.2.2.1.2
  omega
theorem RW_new {P H K : hp} {n m g : Nat} {b : Int} {ob ar : List Nat} (h : RW P H n m b) (hb : b = 1) (hm : m < 18) (hg : g < 40) (hu : (H.1 1872) g = 0) (f : fr ob ar H K) (f1 : 77 ∉ ob) (f2 : 1871 ∉ ar) (e3 : (K.1 1872) = up (H.1 1872) g 1) (e5 : (K.1 1885) = up (H.1 1885) m (g : Int)) (e6 : (K.1 1826 95) = (m : Int) + 1) (hgk : gok P K g) (e4 : ∀ x, x ≠ g → sS H K x ∧ sH H K x) : RG P K n (m + 1) g 1 := by
  obtain ⟨h1, h2, h3⟩ := h
  have a1 := RS_new h1 hm hg hu (f.2.2 77 f1) (f.2.1 1871 (by decide) f2) e3 e4
  have a2 := GF_new h1 (h3 hb) hu hgk e4
  rw [← e5] at a1 a2
  exact ⟨a1, by rw [e6]; rfl, ⟨by omega, by rw [e5, show m + 1 - 1 = m by omega, up_eq]⟩, GF_le a2 (by omega), fun _ => hgk⟩
theorem RG_fr {P H K : hp} {n m g : Nat} {b b' : Int} {ob ar : List Nat} (h : RG P H n m g b) (f : fr ob ar H K) (f1 : 77 ∉ ob ∧ 95 ∉ ob) (f2 : 1871 ∉ ar ∧ 1872 ∉ ar ∧ 1885 ∉ ar) (e4 : ∀ x, x ≠ g → sS H K x ∧ sH H K x) (hb : b' = 1 → gok P K g) : RG P K n m g b' := by
  obtain ⟨h1, h2, h3, h4, h5⟩ := h
  have e5 : (K.1 1885) = (H.1 1885) := f.2.1 1885 (by decide) f2.2.2
  have a1 := RS_k h1 (j := m - 1) (by omega) h3.2 (f.2.2 77 f1.1) (f.2.1 1871 (by decide) f2.1) (f.2.1 1872 (by decide) f2.2.1) e4
  have a2 := GF_k h1 h4 (by omega) h3.2 e4
  rw [← e5] at a1 a2
  exact ⟨a1, by rw [f.2.2 95 f1.2]; exact h2, by rw [e5]; exact h3, a2, hb⟩
theorem RW_fr {P H K : hp} {n m : Nat} {b : Int} {ob ar : List Nat} (h : RW P H n m b) (f : fr ob ar H K) (f1 : 77 ∉ ob ∧ 95 ∉ ob) (f2 : 1871 ∉ ar ∧ 1872 ∉ ar ∧ 1885 ∉ ar) (f3 : (1873 ∉ ar ∧ 1874 ∉ ar) ∧ 1879 ∉ ar ∧ 1880 ∉ ar ∧ 1881 ∉ ar) : RW P K n m b := by
  obtain ⟨h1, h2, h3⟩ := h
  have e5 : (K.1 1885) = (H.1 1885) := f.2.1 1885 (by decide) f2.2.2
  have e4 : ∀ x, sS H K x ∧ sH H K x := fun x => ⟨sS_fr f f3.1 x, sH_fr f f3.2 x⟩
  have a1 := RS_s h1 (f.2.2 77 f1.1) (f.2.1 1871 (by decide) f2.1) (f.2.1 1872 (by decide) f2.2.1) e4
  rw [← e5] at a1
  exact ⟨a1, by rw [f.2.2 95 f1.2]; exact h2, fun q => by rw [e5]; exact GF_s (h3 q) e4⟩
theorem RG_fr0 {P H K : hp} {n m g : Nat} {b : Int} {ob ar : List Nat} (h : RG P H n m g b) (f : fr ob ar H K) (f1 : 77 ∉ ob ∧ 95 ∉ ob) (f2 : 1871 ∉ ar ∧ 1872 ∉ ar ∧ 1885 ∉ ar) (f3 : (1873 ∉ ar ∧ 1874 ∉ ar) ∧ 1879 ∉ ar ∧ 1880 ∉ ar ∧ 1881 ∉ ar) : RG P K n m g b := RG_fr h f f1 f2 (fun x _ => ⟨sS_fr f f3.1 x, sH_fr f f3.2 x⟩) (fun q => gok_s (h.2.2.2.2 q) (sS_fr f f3.1 g) (sH_fr f f3.2 g))
theorem RG_b {P H : hp} {n m g : Nat} {b : Int} (h : RG P H n m g b) (b' : Int) (hb : b' = 1 → gok P H g) : RG P H n m g b' := ⟨h.1, h.2.1, h.2.2.1, h.2.2.2.1, hb⟩
theorem RW_begin {P H K : hp} {n : Nat} {ob ar : List Nat} (h : OS P H n) (f : fr ob ar H K) (f1 : 77 ∉ ob) (f2 : 1871 ∉ ar ∧ 1872 ∉ ar) (f3 : (1873 ∉ ar ∧ 1874 ∉ ar) ∧ 1879 ∉ ar ∧ 1880 ∉ ar ∧ 1881 ∉ ar) (hc : (K.1 1826 95) = 0) (b : Int) : RW P K n 0 b := by
  have e4 : ∀ x, sS H K x ∧ sH H K x := fun x => ⟨sS_fr f f3.1 x, sH_fr f f3.2 x⟩
  exact ⟨RS_0 (RS_s h (f.2.2 77 f1) (f.2.1 1871 (by decide) f2.1) (f.2.1 1872 (by decide) f2.2) e4), hc, fun _ => GF_0 _ _ _⟩
theorem tm_one {P : hp} {a : Nat → Int} (h : a 0 = 0) : tm (ma (P.1 1833) (P.1 1830)) (m_sg (P.1 1826 3) (P.1 1826 8) 60) a 1 0 1 := ⟨by decide, by rw [h]; exact Or.inl rfl, 0, by rw [h]; exact ma_0 (Or.inr rfl), by decide, (show (1 : Nat) - 1 + 0 = 0 from rfl)⟩
