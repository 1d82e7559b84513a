/-! answers by what they hold: Rt -/
def Rt {α : Type} (m : Option α) (P : α → Prop) : Prop := ∃ a, m = some a ∧ P a
theorem rt_ok {α : Type} {a : α} {P : α → Prop} (h : P a) : Rt (some a) P := ⟨a, rfl, h⟩
theorem rt_w {α : Type} {m : Option α} {P P' : α → Prop} (h : Rt m P) (k : ∀ a, P a → P' a) : Rt m P' := by
  obtain ⟨a, e, h⟩ := h
  exact ⟨a, e, k a h⟩
theorem rt1 {α ρ : Type} {P : ρ → Prop} {m : Option α} {f : α → Option ρ} {v : α} (h : m = some v) (k : Rt (f v) P) : Rt (bd m f) P := by rw [h]; exact k
theorem rt2 {α β ρ : Type} {P : ρ → Prop} {m : Option (α × β)} {f : α → β → Option ρ} {v : α} (h : ∃ a, m = some (v, a)) (k : ∀ a, Rt (f v a) P) : Rt (bd2 m f) P := by
  obtain ⟨a, h⟩ := h; rw [h]; exact k a
theorem rt3 {α β γ ρ : Type} {P : ρ → Prop} {m : Option (α × β × γ)} {f : α → β → γ → Option ρ} {v : α} (h : ∃ a b, m = some (v, a, b)) (k : ∀ a b, Rt (f v a b) P) : Rt (bd3 m f) P := by
  obtain ⟨a, b, h⟩ := h; rw [h]; exact k a b
theorem rt4 {α β γ δ ρ : Type} {P : ρ → Prop} {m : Option (α × β × γ × δ)} {f : α → β → γ → δ → Option ρ} {v : α} (h : ∃ a b c, m = some (v, a, b, c)) (k : ∀ a b c, Rt (f v a b c) P) : Rt (bd4 m f) P := by
  obtain ⟨a, b, c, h⟩ := h; rw [h]; exact k a b c
theorem rt5 {α β γ δ ε ρ : Type} {P : ρ → Prop} {m : Option (α × β × γ × δ × ε)} {f : α → β → γ → δ → ε → Option ρ} {v : α} (h : ∃ a b c d, m = some (v, a, b, c, d)) (k : ∀ a b c d, Rt (f v a b c d) P) : Rt (bd5 m f) P := by
  obtain ⟨a, b, c, d, h⟩ := h; rw [h]; exact k a b c d
theorem rb1 {α ρ : Type} {P : ρ → Prop} {m : Option α} {f : α → Option ρ} {q : α → Prop} (h : Rt m q) (k : ∀ a, q a → Rt (f a) P) : Rt (bd m f) P := by
  obtain ⟨a, h, z⟩ := h; rw [h]; exact k a z
theorem rb2 {α β ρ : Type} {P : ρ → Prop} {m : Option (α × β)} {f : α → β → Option ρ} {q : α × β → Prop} (h : Rt m q) (k : ∀ a b, q (a, b) → Rt (f a b) P) : Rt (bd2 m f) P := by
  obtain ⟨⟨a, b⟩, h, z⟩ := h; rw [h]; exact k a b z
theorem rb3 {α β γ ρ : Type} {P : ρ → Prop} {m : Option (α × β × γ)} {f : α → β → γ → Option ρ} {q : α × β × γ → Prop} (h : Rt m q) (k : ∀ a b c, q (a, b, c) → Rt (f a b c) P) : Rt (bd3 m f) P := by
  obtain ⟨⟨a, b, c⟩, h, z⟩ := h; rw [h]; exact k a b c z
theorem rb4 {α β γ δ ρ : Type} {P : ρ → Prop} {m : Option (α × β × γ × δ)} {f : α → β → γ → δ → Option ρ} {q : α × β × γ × δ → Prop} (h : Rt m q) (k : ∀ a b c d, q (a, b, c, d) → Rt (f a b c d) P) : Rt (bd4 m f) P := by
  obtain ⟨⟨a, b, c, d⟩, h, z⟩ := h; rw [h]; exact k a b c d z
theorem rb5 {α β γ δ ε ρ : Type} {P : ρ → Prop} {m : Option (α × β × γ × δ × ε)} {f : α → β → γ → δ → ε → Option ρ} {q : α × β × γ × δ × ε → Prop} (h : Rt m q) (k : ∀ a b c d e, q (a, b, c, d, e) → Rt (f a b c d e) P) : Rt (bd5 m f) P := by
  obtain ⟨⟨a, b, c, d, e⟩, h, z⟩ := h; rw [h]; exact k a b c d e z
theorem rb7 {α1 α2 α3 α4 α5 α6 α7 ρ : Type} {P : ρ → Prop} {m : Option (α1 × α2 × α3 × α4 × α5 × α6 × α7)} {f : α1 → α2 → α3 → α4 → α5 → α6 → α7 → Option ρ} {q : α1 × α2 × α3 × α4 × α5 × α6 × α7 → Prop} (h : Rt m q) (k : ∀ a b c d e g i, q (a, b, c, d, e, g, i) → Rt (f a b c d e g i) P) : Rt (bd7 m f) P := by
  obtain ⟨⟨a, b, c, d, e, g, i⟩, h, z⟩ := h; rw [h]; exact k a b c d e g i z
theorem rb9 {α1 α2 α3 α4 α5 α6 α7 α8 α9 ρ : Type} {P : ρ → Prop} {m : Option (α1 × α2 × α3 × α4 × α5 × α6 × α7 × α8 × α9)} {f : α1 → α2 → α3 → α4 → α5 → α6 → α7 → α8 → α9 → Option ρ} {q : α1 × α2 × α3 × α4 × α5 × α6 × α7 × α8 × α9 → Prop} (h : Rt m q) (k : ∀ a b c d e g i j l, q (a, b, c, d, e, g, i, j, l) → Rt (f a b c d e g i j l) P) : Rt (bd9 m f) P := by
  obtain ⟨⟨a, b, c, d, e, g, i, j, l⟩, h, z⟩ := h; rw [h]; exact k a b c d e g i j l z
theorem rb10 {α1 α2 α3 α4 α5 α6 α7 α8 α9 α10 ρ : Type} {P : ρ → Prop} {m : Option (α1 × α2 × α3 × α4 × α5 × α6 × α7 × α8 × α9 × α10)} {f : α1 → α2 → α3 → α4 → α5 → α6 → α7 → α8 → α9 → α10 → Option ρ} {q : α1 × α2 × α3 × α4 × α5 × α6 × α7 × α8 × α9 × α10 → Prop} (h : Rt m q) (k : ∀ a b c d e g i j l n, q (a, b, c, d, e, g, i, j, l, n) → Rt (f a b c d e g i j l n) P) : Rt (bd10 m f) P := by
  obtain ⟨⟨a, b, c, d, e, g, i, j, l, n⟩, h, z⟩ := h; rw [h]; exact k a b c d e g i j l n z
theorem rt_if {ρ : Type} {P : ρ → Prop} {c : Prop} [Decidable c] {X Y : Option ρ} (h1 : c → Rt X P) (h2 : ¬ c → Rt Y P) : Rt (if c then X else Y) P := by
  by_cases q : c
  · rw [if_pos q]; exact h1 q
  · rw [if_neg q]; exact h2 q
theorem rt_t {ρ : Type} {P : ρ → Prop} {c : Prop} [Decidable c] {X Y : Option ρ} (q : c) (h : Rt X P) : Rt (if c then X else Y) P := by rw [if_pos q]; exact h
theorem rt_f {ρ : Type} {P : ρ → Prop} {c : Prop} [Decidable c] {X Y : Option ρ} (q : ¬ c) (h : Rt Y P) : Rt (if c then X else Y) P := by rw [if_neg q]; exact h
/-- a loop by its fuel: from step i to step n -/
theorem rt_lp {ρ σ : Type} {P : ρ → Prop} (F : Nat → σ → Option ρ) (I : Nat → σ → Prop) (n : Nat) (hend : ∀ k x, I n x → Rt (F (k + 1) x) P) (hstep : ∀ k i x, i < n → I i x → (∀ y, I (i + 1) y → Rt (F k y) P) → Rt (F (k + 1) x) P) : ∀ (N : Nat), n < N → ∀ x, I 0 x → Rt (F N x) P := by
  have key : ∀ (d i N : Nat) (x : σ), i + d = n → d < N → I i x → Rt (F N x) P := by
    intro d
    induction d with
    | zero =>
      intro i N x h1 h2 h3
      obtain ⟨k, rfl⟩ : ∃ k, N = k + 1 := ⟨N - 1, by omega⟩
      exact hend k x (by rw [← show i = n by omega]; exact h3)
    | succ d ih =>
      intro i N x h1 h2 h3
      obtain ⟨k, rfl⟩ : ∃ k, N = k + 1 := ⟨N - 1, by omega⟩
      exact hstep k i x (by omega) h3 (fun y hy => ih (i + 1) k y (by omega) (by omega) hy)
  intro N hN x hx
  exact key n 0 N x (by omega) hN hx
