/-! loops that count -/
theorem lp {W α : Type} (z : Nat → W → Nat → Option α) (P : Nat → W → Prop) (Q : α → Prop) (k c e : Nat)
    (st : ∀ i w, i < k → P i w → (∃ w' c', c' ≤ c ∧ P (i + 1) w' ∧ ∀ m rs, z (i + 1) w' m = some rs → z i w (m + c') = some rs) ∨ (∃ rs e', e' ≤ e ∧ Q rs ∧ z i w e' = some rs))
    (en : ∀ w, P k w → ∃ rs e', e' ≤ e ∧ Q rs ∧ z k w e' = some rs) :
    ∀ d i w, i + d = k → P i w → ∃ rs m, Q rs ∧ m ≤ c * d + e ∧ z i w m = some rs := by
  intro d
  induction d with
  | zero =>
    intro i w hi hp
    have hi' : i = k := by omega
    subst hi'
    obtain ⟨rs, e', h1, h2, h3⟩ := en w hp
    exact ⟨rs, e', h2, by omega, h3⟩
  | succ d ih =>
    intro i w hi hp
    rw [Nat.mul_add, Nat.mul_one]
    rcases st i w (by omega) hp with ⟨w', c', h1, h2, h3⟩ | ⟨rs, e', h1, h2, h3⟩
    · obtain ⟨rs, m, q1, q2, q3⟩ := ih (i + 1) w' (by omega) h2
      exact ⟨rs, m + c', q1, by omega, h3 m rs q3⟩
    · exact ⟨rs, e', h2, by omega, h3⟩
theorem lpc {W α : Type} (z : Nat → W → Nat → Option α) (y : W → Nat → Option α) (P : Nat → W → Prop) (Q : W → Prop) (k c e : Nat)
    (st : ∀ i w, i < k → P i w → (∃ w' c', c' ≤ c ∧ P (i + 1) w' ∧ ∀ m rs, z (i + 1) w' m = some rs → z i w (m + c') = some rs) ∨ (∃ w' e', e' ≤ e ∧ Q w' ∧ ∀ m rs, y w' m = some rs → z i w (m + e') = some rs))
    (en : ∀ w, P k w → ∃ w' e', e' ≤ e ∧ Q w' ∧ ∀ m rs, y w' m = some rs → z k w (m + e') = some rs) :
    ∀ d i w, i + d = k → P i w → ∃ w' m', Q w' ∧ m' ≤ c * d + e ∧ ∀ m rs, y w' m = some rs → z i w (m + m') = some rs := by
  intro d
  induction d with
  | zero =>
    intro i w hi hp
    have hi' : i = k := by omega
    subst hi'
    obtain ⟨rs, e', h1, h2, h3⟩ := en w hp
    exact ⟨rs, e', h2, by omega, h3⟩
  | succ d ih =>
    intro i w hi hp
    rw [Nat.mul_add, Nat.mul_one]
    rcases st i w (by omega) hp with ⟨w', c', h1, h2, h3⟩ | ⟨rs, e', h1, h2, h3⟩
    · obtain ⟨rs, m', q1, q2, q3⟩ := ih (i + 1) w' (by omega) h2
      refine ⟨rs, m' + c', q1, by omega, fun m rs' hy => ?_⟩
      have := h3 (m + m') rs' (q3 m rs' hy)
      rw [Nat.add_assoc] at this
      exact this
    · exact ⟨rs, e', h2, by omega, h3⟩
/-! rows of the reference: five ints a value -/
def r5 (f : Nat → Int32) (i : Nat) (t : V) : Prop := f (5 * i) = nI t.1 ∧ f (5 * i + 1) = t.2.2.2 ∧ f (5 * i + 2) = nI t.2.1 ∧ f (5 * i + 3) = nI t.2.2.1
def cpn (f : Nat → Int32) (i : Nat) (g : Nat → Int32) (j n : Nat) : Nat → Int32 := fun k => if 5 * j ≤ k ∧ k < 5 * j + n then f (k - 5 * j + 5 * i) else g k
def cp5 (f : Nat → Int32) (i : Nat) (g : Nat → Int32) (j : Nat) : Nat → Int32 := cpn f i g j 5
theorem cpn_0 {f g : Nat → Int32} {i j : Nat} : cpn f i g j 0 = g := by
  funext k
  unfold cpn
  rw [if_neg (by omega)]
theorem cpn_up {f g : Nat → Int32} {i j n : Nat} : upd (cpn f i g j n) (5 * j + n) (f (5 * i + n)) = cpn f i g j (n + 1) := by
  funext k
  by_cases h : k = 5 * j + n
  · subst h
    rw [upd_at]
    unfold cpn
    rw [if_pos ⟨by omega, by omega⟩, show 5 * j + n - 5 * j + 5 * i = 5 * i + n by omega]
  · rw [upd_ne h]
    unfold cpn
    by_cases h2 : 5 * j ≤ k ∧ k < 5 * j + n
    · rw [if_pos h2, if_pos ⟨by omega, by omega⟩]
    · rw [if_neg h2, if_neg (by omega)]
theorem cpn_upS {f : Nat → Int32} {i j n : Nat} (hn : n < 5) : upd (cpn f i f j n) (5 * j + n) (cpn f i f j n (5 * i + n)) = cpn f i f j (n + 1) := by
  rw [← cpn_up]
  congr 1
  show (if 5 * j ≤ 5 * i + n ∧ 5 * i + n < 5 * j + n then f (5 * i + n - 5 * j + 5 * i) else f (5 * i + n)) = _
  rw [if_neg (by omega)]
def st5 (g : Nat → Int32) (j : Nat) (a b c d e : Int32) : Nat → Int32 := upd (upd (upd (upd (upd g (5 * j) a) (5 * j + 1) b) (5 * j + 2) c) (5 * j + 3) d) (5 * j + 4) e
theorem r5_cp {f g : Nat → Int32} {i j : Nat} {t : V} (h : r5 f i t) : r5 (cp5 f i g j) j t := by
  have q : ∀ k, k < 5 → cp5 f i g j (5 * j + k) = f (5 * i + k) := by
    intro k hk
    unfold cp5 cpn
    rw [if_pos ⟨by omega, by omega⟩, show 5 * j + k - 5 * j + 5 * i = 5 * i + k by omega]
  exact ⟨(q 0 (by decide)).trans h.1, (q 1 (by decide)).trans h.2.1, (q 2 (by decide)).trans h.2.2.1, (q 3 (by decide)).trans h.2.2.2⟩
theorem cp5_ne {f g : Nat → Int32} {i j k : Nat} (h : ¬ (5 * j ≤ k ∧ k < 5 * j + 5)) : cp5 f i g j k = g k := if_neg h
theorem r5_cp_ne {f g : Nat → Int32} {i j m : Nat} {t : V} (hm : m ≠ j) (h : r5 g m t) : r5 (cp5 f i g j) m t := by
  refine ⟨(cp5_ne (by omega)).trans h.1, (cp5_ne (by omega)).trans h.2.1, (cp5_ne (by omega)).trans h.2.2.1, (cp5_ne (by omega)).trans h.2.2.2⟩
theorem st5_at {g : Nat → Int32} {j : Nat} {a b c d e : Int32} : st5 g j a b c d e (5 * j) = a ∧ st5 g j a b c d e (5 * j + 1) = b ∧ st5 g j a b c d e (5 * j + 2) = c ∧ st5 g j a b c d e (5 * j + 3) = d := by
  unfold st5
  refine ⟨?_, ?_, ?_, ?_⟩
  · rw [upd_ne (by omega), upd_ne (by omega), upd_ne (by omega), upd_ne (by omega), upd_at]
  · rw [upd_ne (by omega), upd_ne (by omega), upd_ne (by omega), upd_at]
  · rw [upd_ne (by omega), upd_ne (by omega), upd_at]
  · rw [upd_ne (by omega), upd_at]
theorem st5_ne {g : Nat → Int32} {j k : Nat} {a b c d e : Int32} (h : ¬ (5 * j ≤ k ∧ k < 5 * j + 5)) : st5 g j a b c d e k = g k := by
  unfold st5
  rw [upd_ne (by omega), upd_ne (by omega), upd_ne (by omega), upd_ne (by omega), upd_ne (by omega)]
theorem r5_st {g : Nat → Int32} {j : Nat} {a b c d e : Int32} {t : V} (h1 : a = nI t.1) (h2 : b = t.2.2.2) (h3 : c = nI t.2.1) (h4 : d = nI t.2.2.1) : r5 (st5 g j a b c d e) j t := by
  subst h1 h2 h3 h4
  exact st5_at
theorem r5_st_ne {g : Nat → Int32} {j m : Nat} {a b c d e : Int32} {t : V} (hm : m ≠ j) (h : r5 g m t) : r5 (st5 g j a b c d e) m t := by
  refine ⟨(st5_ne (by omega)).trans h.1, (st5_ne (by omega)).trans h.2.1, (st5_ne (by omega)).trans h.2.2.1, (st5_ne (by omega)).trans h.2.2.2⟩
/-! bytes of names, eight in a long -/
def pk (b : Nat → Nat) : Nat → Nat
  | 0 => 0
  | k + 1 => pk b k + b k * 256 ^ k
theorem qk_lt {b : Nat → Nat} : ∀ {k : Nat}, (∀ i, i < k → b i < 256) → pk b k < 256 ^ k
  | 0, _ => Nat.zero_lt_one
  | k + 1, h => by
    have h1 := qk_lt (k := k) (fun i hi => h i (by omega))
    have h2 := h k (by omega)
    show pk b k + b k * 256 ^ k < 256 ^ (k + 1)
    have h3 : b k * 256 ^ k ≤ 255 * 256 ^ k := Nat.mul_le_mul_right _ (by omega)
    rw [Nat.pow_succ]
    omega
theorem qk_congr {b c : Nat → Nat} : ∀ {k : Nat}, (∀ i, i < k → b i = c i) → pk b k = pk c k
  | 0, _ => rfl
  | k + 1, h => by
    show pk b k + b k * 256 ^ k = pk c k + c k * 256 ^ k
    rw [qk_congr (k := k) (fun i hi => h i (by omega)), h k (by omega)]
theorem qk_at {b : Nat → Nat} : ∀ {k i : Nat}, (∀ i, i < k → b i < 256) → i < k → pk b k / 256 ^ i % 256 = b i
  | 0, _, _, h => by omega
  | k + 1, i, h, hi => by
    have h1 := qk_lt (k := k) (fun i hi => h i (by omega))
    show (pk b k + b k * 256 ^ k) / 256 ^ i % 256 = b i
    have hp : ∀ n, 0 < 256 ^ n := fun n => Nat.pow_pos (by decide)
    by_cases e : i = k
    · subst e
      rw [Nat.add_mul_div_right _ _ (hp i), Nat.div_eq_of_lt h1, Nat.zero_add, Nat.mod_eq_of_lt (h i (by omega))]
    · have e2 : 256 ^ k = 256 ^ (k - i - 1) * 256 * 256 ^ i := by
        rw [← Nat.pow_succ, ← Nat.pow_add]
        congr 1
        omega
      rw [e2, ← Nat.mul_assoc, Nat.add_mul_div_right _ _ (hp i), ← Nat.mul_assoc, Nat.add_mul_mod_self_right]
      exact qk_at (k := k) (fun i hi => h i (by omega)) (by omega)
theorem qk_inj {b c : Nat → Nat} {k : Nat} (hb : ∀ i, i < k → b i < 256) (hc : ∀ i, i < k → c i < 256) (e : pk b k = pk c k) : ∀ i, i < k → b i = c i := by
  intro i hi
  rw [← qk_at hb hi, ← qk_at hc hi, e]
theorem qk_hi {b : Nat → Nat} {k i : Nat} (h : ∀ i, i < k → b i < 256) (hi : k ≤ i) : pk b k / 256 ^ i = 0 :=
  Nat.div_eq_of_lt (Nat.lt_of_lt_of_le (qk_lt h) (Nat.pow_le_pow_right (by decide) hi))
theorem qk_64 {b : Nat → Nat} {k : Nat} (h : ∀ i, i < k → b i < 256) (hk : k ≤ 8) : pk b k < 2 ^ 64 :=
  Nat.lt_of_lt_of_le (qk_lt h) (Nat.le_trans (Nat.pow_le_pow_right (by decide) hk) (by decide))
theorem qk_or {b : Nat → Nat} {k : Nat} (h : ∀ i, i < k + 1 → b i < 256) (hk : k < 8) : lN (pk b k) ||| (lN (b k) <<< ((nI (8 * k)).toInt64 &&& 63)) = lN (pk b (k + 1)) := by
  have e : (256 : Nat) ^ k = 2 ^ (8 * k) := by rw [Nat.pow_mul]
  have h1 := qk_64 (k := k + 1) h (by omega)
  rw [wb_shl _ (by omega)]
  have h2 := qk_lt (k := k) (b := b) (fun i hi => h i (by omega))
  rw [e] at h2
  have h3 : pk b (k + 1) = pk b k + b k * 2 ^ (8 * k) := by rw [← e]; rfl
  rw [h3] at h1 ⊢
  exact g_or' rfl h2 h1
