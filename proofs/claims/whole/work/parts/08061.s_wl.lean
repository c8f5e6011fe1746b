/-! the law's world: the class's cells, the reference's, the row 'out' -/
def shf (k : Nat) : Nat := bif Nat.blt k 1000000 then k + 38 else k
def uns (k : Nat) : Nat := bif Nat.blt k 1000000 then k - 38 else k
theorem shf_lt {k : Nat} (h : k < 1000000) : shf k = k + 38 := by
  unfold shf
  rw [show Nat.blt k 1000000 = true from Nat.ble_eq_true_of_le h]
  rfl
theorem shf_ge {k : Nat} (h : 1000000 ≤ k) : shf k = k := by
  unfold shf
  rw [show Nat.blt k 1000000 = false from by
    cases e : Nat.blt k 1000000 with
    | false => rfl
    | true => exact absurd (show k < 1000000 from Nat.le_of_ble_eq_true e) (by omega)]
  rfl
def wl (I : Nat → Int32) (L : Nat → Int64) (T : Nat → Nat → Int32) (U : Nat → Nat → Int64) (J : Nat → Int32) (S : Nat → Nat → Int32) (K : Nat → Int64) (f : Nat → Int64) : rx_H := wc I L T U ++ ((wr J S K).map (rx_e shf (fun t => t)) ++ [.inl (1, 1, .inr (.inl f))])
def exC (vh : rx_H) : rx_H := vh.take 38
def wrC (vh a : rx_H) : rx_H := a ++ vh.drop 38
def exR (vh : rx_H) : rx_H := ((vh.drop 38).take 20).map (rx_e uns (fun t => t))
def wrR (vh a : rx_H) : rx_H := vh.take 38 ++ (a.map (rx_e shf (fun t => t)) ++ vh.drop 58)
noncomputable def lC (F : rx_F) : rx_F := lfS (fun k => k) (fun k => k) exC wrC F
noncomputable def lR (F : rx_F) : rx_F := lfS shf uns exR wrR F
theorem rx_a_a (f g : Nat → Nat) (x : vp_A) : rx_a f (rx_a g x) = rx_a (fun k => f (g k)) x := by
  obtain ⟨n, a⟩ := x
  unfold rx_a
  rcases a with a | a | a | a | a
  · rfl
  · rfl
  · rfl
  · rfl
  · simp only [Option.map_map]
    rfl
theorem rx_e_e (f g : Nat → Nat) (ca : Nat → ClassId) (e : va_E) : rx_e f ca (rx_e g (fun t => t) e) = rx_e (fun k => f (g k)) ca e := by
  rcases e with a | o
  · unfold rx_e
    simp only [rx_a_a]
  · unfold rx_e
    simp only [rx_vs_v]
theorem em_app (a b : rx_H) : em (fun k => k) a (a ++ b) := by
  intro k ad ca q hq
  obtain ⟨e, he, rfl⟩ := rx_w_at hq
  refine rx_w_get ?_
  rw [List.getElem?_append_left (List.getElem?_eq_some_iff.mp he).1]
  exact he
theorem em_mid (a b c : rx_H) (ha : a.length = 38) (hb : b.length ≤ 1000) : em shf b (a ++ (b.map (rx_e shf (fun t => t)) ++ c)) := by
  intro k ad ca q hq
  obtain ⟨e, he, rfl⟩ := rx_w_at hq
  have hk := (List.getElem?_eq_some_iff.mp he).1
  have h1 : (a ++ (b.map (rx_e shf (fun t => t)) ++ c))[shf k]? = some (rx_e shf (fun t => t) e) := by
    rw [shf_lt (by omega), List.getElem?_append_right (by omega), show k + 38 - a.length = k by omega, List.getElem?_append_left (by rw [List.length_map]; exact hk), List.getElem?_map, he]
    rfl
  rw [rx_w_get h1, rx_e_e]
section
variable {I I' : Nat → Int32} {L L' : Nat → Int64} {T T' : Nat → Nat → Int32} {U U' : Nat → Nat → Int64} {J J' : Nat → Int32} {S S' : Nat → Nat → Int32} {K K' : Nat → Int64} {f : Nat → Int64} {F : rx_F} {rv : Option Value}
theorem wc_len : (wc I L T U).length = 38 := rfl
theorem wr_len : (wr J S K).length = 20 := rfl
theorem app3 {a m r : rx_H} (ha : a.length = 38) (hm : m.length = 20) {j : Nat} (h : 58 ≤ j) : (a ++ (m ++ r))[j]? = r[j - 58]? := by
  rw [List.getElem?_append_right (by omega), List.getElem?_append_right (by omega), ha, hm, show j - 38 - 20 = j - 58 by omega]
theorem lC_eq {As : List Value} (h : F (wc I L T U) As = some (rv, wc I' L' T' U')) (hr : ∀ g g', rv.map (rx_v g) = rv.map (rx_v g')) : lC F (wl I L T U J S K f) As = some (rv, wl I' L' T' U' J S K f) := by
  have hid : As.map (rx_v (fun k => k)) = As := by
    rw [show (rx_v (fun k => k)) = id from by funext v; cases v <;> rfl, List.map_id]
  have e1 : exC (wl I L T U J S K f) = wc I L T U := rfl
  have e2 : wrC (wl I L T U J S K f) (wc I' L' T' U') = wl I' L' T' U' J S K f := rfl
  have q := lfS_eq (g := fun k => k) (un := fun k => k) (ex := exC) (wri := wrC) (F := F) (vh := wl I L T U J S K f) (a' := wc I' L' T' U') (As := As) (rv := rv) (by rw [e1, hid]; exact h) ⟨by rw [e1]; exact em_app _ _, by rw [hid, hid], by rw [e1]; rfl, by rw [e2]; exact em_app _ _, fun j hj => ?_, rfl, hr, fun _ _ => rfl, fun i j _ _ e => e⟩
  · rw [e2] at q
    exact q
  · have : 38 ≤ j := by
      by_cases c : j < 38
      · exact absurd rfl (hj j c)
      · omega
    show (wc I' L' T' U' ++ _)[j]? = (wc I L T U ++ _)[j]?
    rw [List.getElem?_append_right (by rw [wc_len]; exact this), List.getElem?_append_right (by rw [wc_len]; exact this), wc_len, wc_len]
    rfl
theorem lR_eq {As As0 : List Value} (h : F (wr J S K) As0 = some (rv, wr J' S' K')) (hA : As.map (rx_v uns) = As0) (hA' : As0.map (rx_v shf) = As) (hr : ∀ g g', rv.map (rx_v g) = rv.map (rx_v g')) : lR F (wl I L T U J S K f) As = some (rv, wl I L T U J' S' K' f) := by
  have e1 : exR (wl I L T U J S K f) = wr J S K := rfl
  have e2 : wrR (wl I L T U J S K f) (wr J' S' K') = wl I L T U J' S' K' f := rfl
  have q := lfS_eq (g := shf) (un := uns) (ex := exR) (wri := wrR) (F := F) (vh := wl I L T U J S K f) (a' := wr J' S' K') (As := As) (rv := rv) (by rw [e1, hA]; exact h) ⟨by rw [e1]; exact em_mid _ _ _ rfl (by rw [wr_len]; decide), by rw [hA, hA'], by rw [e1]; rfl, by rw [e2]; exact em_mid _ _ _ rfl (by rw [wr_len]; decide), fun j hj => ?_, rfl, hr, fun k hk => shf_ge hk, fun i j hi hj e => ?_⟩
  · rw [e2] at q
    exact q
  · show (wc I L T U ++ ((wr J' S' K').map (rx_e shf (fun t => t)) ++ _))[j]? = (wc I L T U ++ ((wr J S K).map (rx_e shf (fun t => t)) ++ _))[j]?
    by_cases c : j < 38
    · rw [List.getElem?_append_left (by rw [wc_len]; exact c), List.getElem?_append_left (by rw [wc_len]; exact c)]
    · have : 58 ≤ j := by
        by_cases d : j < 58
        · exact absurd (show j = shf (j - 38) from by rw [shf_lt (by omega)]; omega) (hj (j - 38) (by rw [wr_len]; omega))
        · omega
      rw [app3 wc_len (by rw [List.length_map]; exact wr_len) this, app3 wc_len (by rw [List.length_map]; exact wr_len) this]
      rfl
  · rw [wr_len] at hi hj
    rw [shf_lt (by omega), shf_lt (by omega)] at e
    omega
end
