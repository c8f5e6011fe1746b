/-! a constructor of the reference's, seen from the world that begins with the class's cells -/
def exA (vh : rx_H) : rx_H := (vh.drop 38).map (rx_e uns (fun t => t))
noncomputable def lfA (F : rx_F) : rx_F := fun vh As => match F (exA vh) (As.map (rx_v uns)) with
  | some (none, a') => @ite _ (em shf (exA vh) vh ∧ (As.map (rx_v uns)).map (rx_v shf) = As ∧ 38 ≤ vh.length ∧ vh.length ≤ 1000 ∧ a'.length ≤ 1000 ∧ (vh.take 38).all (rx_we 38) = true ∧ a'.all (rx_we a'.length) = true) (Classical.propDecidable _) (some (none, vh.take 38 ++ a'.map (rx_e shf (fun t => t)))) none
  | _ => none
theorem lfA_eq {F : rx_F} {vh a' : rx_H} {As : List Value} (h : F (exA vh) (As.map (rx_v uns)) = some (none, a')) (hc : em shf (exA vh) vh ∧ (As.map (rx_v uns)).map (rx_v shf) = As ∧ 38 ≤ vh.length ∧ vh.length ≤ 1000 ∧ a'.length ≤ 1000 ∧ (vh.take 38).all (rx_we 38) = true ∧ a'.all (rx_we a'.length) = true) : lfA F vh As = some (none, vh.take 38 ++ a'.map (rx_e shf (fun t => t))) := by
  unfold lfA
  rw [h]
  exact if_pos hc
def ad2 (ad ad1 : Nat → Nat) (k : Nat) : Nat := if k < 38 then ad k else if k < 1000000 then ad1 (k - 38) else ad k
theorem exA_len {vh : rx_H} : (exA vh).length = vh.length - 38 := by
  unfold exA
  rw [List.length_map, List.length_drop]
set_option maxHeartbeats 1000000 in
theorem rx_M.liftA {l : Launch} {y : MethodName} {ws : List Cond} {rm : Room} {F : rx_F} (h : rx_M l y ws rm F) : rx_M l y ws rm (lfA F) := by
  intro D tys ca ad vh As rv vh' sz hty hF
  unfold lfA at hF
  split at hF
  · rename_i a' hFa
    by_cases c : em shf (exA vh) vh ∧ (As.map (rx_v uns)).map (rx_v shf) = As ∧ 38 ≤ vh.length ∧ vh.length ≤ 1000 ∧ a'.length ≤ 1000 ∧ (vh.take 38).all (rx_we 38) = true ∧ a'.all (rx_we a'.length) = true
    · rw [if_pos c] at hF
      cases hF
      obtain ⟨c1, c2, c3, c4, c5, c6, c7⟩ := c
      have el := exA_len (vh := vh)
      have hA : ∀ q, va_A (rx_w (fun k => ad (shf k)) ca (exA vh)) sz q → va_A (rx_w ad ca vh) sz q := by
        rintro q (⟨k, x, hk⟩ | hq)
        · exact Or.inl ⟨shf k, x, c1 k ad ca _ hk⟩
        · exact Or.inr hq
      have M := h D tys ca (fun k => ad (shf k)) (exA vh) (As.map (rx_v uns)) none a' sz hty hFa
      refine met_mono M (fun b U hP => ?_) (fun b s o t hP hQ => ?_) hA
      · rw [← c2] at hP
        refine em_P c1 (fun k hk => shf_ge hk) (fun i j hi hj e => ?_) b U hP
        rw [shf_lt (by omega), shf_lt (by omega)] at e
        omega
      · obtain ⟨_, h1, hP, _, hD, _⟩ := hP
        obtain ⟨⟨ad1, g1, g2, g3, g4, ho, hP1, hD1⟩, hF9⟩ := hQ
        have k1 : ∀ k, k < 38 ∨ 1000000 ≤ k → ad2 ad ad1 k = ad k := by
          intro k hk
          unfold ad2
          by_cases d : k < 38
          · rw [if_pos d]
          · rw [if_neg d, if_neg (by omega)]
        have k2 : ∀ k, k < a'.length ∨ 1000000 ≤ k → ad2 ad ad1 (shf k) = ad1 k := by
          intro k hk
          by_cases d : k < 1000000
          · rw [shf_lt d]
            unfold ad2
            rw [if_neg (by omega), if_pos (by omega), Nat.add_sub_cancel]
          · rw [shf_ge (by omega), k1 k (by omega), g1 k (by omega)]
            show ad k = ad (shf k)
            rw [shf_ge (by omega)]
        have k3 : ∀ k, 38 ≤ k → k < 1000000 → ad2 ad ad1 k = ad1 (k - 38) := by
          intro k h1 h2
          unfold ad2
          rw [if_neg (by omega), if_pos (by omega)]
        have hlo : ∀ (j : Nat) (e : va_E), j < 38 → (vh.take 38 ++ a'.map (rx_e shf (fun t => t)))[j]? = some e → vh[j]? = some e ∧ rx_e (ad2 ad ad1) ca e = rx_e ad ca e := by
          intro j e hj he
          rw [List.getElem?_append_left (by rw [List.length_take]; omega)] at he
          have hw : rx_we 38 e = true := List.all_eq_true.mp c6 e (List.mem_of_getElem? he)
          rw [List.getElem?_take_of_lt hj] at he
          exact ⟨he, rx_we_tr k1 hw⟩
        have hhi : ∀ (j : Nat) (e : va_E), 38 ≤ j → (vh.take 38 ++ a'.map (rx_e shf (fun t => t)))[j]? = some e → j < 38 + a'.length ∧ ∃ e', a'[j - 38]? = some e' ∧ rx_e (ad2 ad ad1) ca e = rx_e ad1 ca e' := by
          intro j e hj he
          rw [List.getElem?_append_right (by rw [List.length_take]; omega), show j - (vh.take 38).length = j - 38 by rw [List.length_take]; omega, List.getElem?_map] at he
          cases he' : a'[j - 38]? with
          | none => rw [he'] at he; cases he
          | some e' =>
            rw [he'] at he
            cases he
            have hl := (List.getElem?_eq_some_iff.mp he').1
            have hw : rx_we a'.length e' = true := List.all_eq_true.mp c7 e' (List.mem_of_getElem? he')
            refine ⟨by omega, e', rfl, ?_⟩
            rw [rx_e_e]
            exact rx_we_tr k2 hw
        have hin : ∀ (j : Nat) (q : Nat × va_E), (rx_w (ad2 ad ad1) ca (vh.take 38 ++ a'.map (rx_e shf (fun t => t))))[j]? = some q → (j < 38 ∧ (rx_w ad ca vh)[j]? = some q) ∨ (38 ≤ j ∧ (rx_w ad1 ca a')[j - 38]? = some q) := by
          intro j q hq
          obtain ⟨e, he, rfl⟩ := rx_w_at hq
          by_cases d : j < 38
          · obtain ⟨e1, e2⟩ := hlo j e d he
            refine Or.inl ⟨d, ?_⟩
            rw [e2, k1 j (Or.inl d)]
            exact rx_w_get e1
          · obtain ⟨e0, e', e1, e2⟩ := hhi j e (by omega) he
            refine Or.inr ⟨by omega, ?_⟩
            rw [e2, k3 j (by omega) (by omega)]
            exact rx_w_get e1
        have hap : ∀ (i j : Nat) (q r : Nat × va_E), i < 38 → (rx_w ad ca vh)[i]? = some q → (rx_w ad1 ca a')[j]? = some r → q.1 = r.1 → False := by
          intro i j q r hi hq hr e
          rcases hD1.2 j r hr with ⟨k, x, hk⟩ | hk
          · have e1 := c1 k ad ca _ hk
            have e2 := hD.1 _ _ _ _ hq e1 e
            obtain ⟨e3, he3, _⟩ := rx_w_at hk
            have hk9 := (List.getElem?_eq_some_iff.mp he3).1
            rw [shf_lt (by omega)] at e2
            omega
          · have := (hP i q hq).lt
            rw [h1] at this
            rw [← e] at hk
            exact absurd this (Nat.not_lt.mpr hk)
        refine ⟨⟨ad2 ad ad1, fun k hk => ?_, fun z => ?_, ?_, ?_, ho, ?_, ?_⟩, ⟨hF9.1, fun q q1 q2 => hF9.2 q q1 (fun z => q2 (hA q z))⟩⟩
        · by_cases d : k < 38 ∨ 1000000 ≤ k
          · exact k1 k d
          · rw [k3 k (by omega) (by omega), g1 (k - 38) (by omega)]
            show ad (shf (k - 38)) = ad k
            rw [shf_lt (by omega), show k - 38 + 38 = k by omega]
        · have e := g2 z
          funext k
          by_cases d : k < 38 ∨ 1000000 ≤ k
          · exact k1 k d
          · unfold ad2
            rw [if_neg (by omega), if_pos (by omega), e]
            show ad (shf (k - 38)) = ad k
            rw [shf_lt (by omega), show k - 38 + 38 = k by omega]
        · rw [List.length_append, List.length_take, List.length_map]
          omega
        · rw [List.length_append, List.length_take, List.length_map]
          omega
        · intro j q hq
          rcases hin j q hq with ⟨d, e0⟩ | ⟨d, e0⟩
          · have at0 := hP j q e0
            refine at0.kept (hF9.2 _ at0.lt ?_)
            rintro (⟨k, x, hk⟩ | hk)
            · have e1 := c1 k ad ca _ hk
              have e2 := hD.1 _ _ _ _ e0 e1 rfl
              obtain ⟨e3, he3, _⟩ := rx_w_at hk
              have hk9 := (List.getElem?_eq_some_iff.mp he3).1
              rw [shf_lt (by omega)] at e2
              omega
            · have := at0.lt
              rw [h1] at this
              exact absurd this (Nat.not_lt.mpr hk)
          · exact hP1 (j - 38) q e0
        · refine ⟨fun i j q r hq hr e => ?_, fun j q hq => ?_⟩
          · rcases hin i q hq with ⟨d1, e1⟩ | ⟨d1, e1⟩ <;> rcases hin j r hr with ⟨d2, e2⟩ | ⟨d2, e2⟩
            · exact hD.1 i j q r e1 e2 e
            · exact (hap i (j - 38) q r d1 e1 e2 e).elim
            · exact (hap j (i - 38) r q d2 e2 e1 e.symm).elim
            · have := hD1.1 (i - 38) (j - 38) q r e1 e2 e
              omega
          · rcases hin j q hq with ⟨d1, e1⟩ | ⟨d1, e1⟩
            · exact va_A.in e1
            · exact hA _ (hD1.2 _ q e1)
    · rw [if_neg c] at hF
      cases hF
  · cases hF
