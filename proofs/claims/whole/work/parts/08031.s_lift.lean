/-! contracts in a larger world -/
theorem met_mono {l : Launch} {y : MethodName} {ws : List Cond} {rm : Room} {Pc Pc' : Array Value → State → Prop} {Qc Qc' : Array Value → State → Outcome → State → Prop} {mc ms : Nat} {free free' : Addr → Prop} (h : Met l y ws rm Pc Qc mc ms free) (hp : ∀ a s, Pc' a s → Pc a s) (hq : ∀ a s o t, Pc' a s → Qc a s o t → Qc' a s o t) (hf : ∀ q, free q → free' q) : Met l y ws rm Pc' Qc' mc ms free' := by
  intro p e ha hc hk s m args below hfr happ hP _
  obtain ⟨n, o, h1, h2, h3, h4, L, h5, h6⟩ := h p e ha hc hk s m args below hfr happ (hp _ _ hP) trivial
  exact ⟨n, o, h1, h2, h3, hq _ _ _ _ hP h4, L, h5, fun q hq => hf _ (h6 q hq)⟩
theorem rx_v_v (f g : Nat → Nat) (v : Value) : rx_v f (rx_v g v) = rx_v (fun k => f (g k)) v := by cases v <;> rfl
theorem rx_vs_v (f g : Nat → Nat) (vs : List Value) : (vs.map (rx_v g)).map (rx_v f) = vs.map (rx_v (fun k => f (g k))) := by
  rw [List.map_map]
  exact List.map_congr_left (fun v _ => rx_v_v f g v)
/-- the world a lies in the world vh, its places moved by g -/
def em (g : Nat → Nat) (a vh : rx_H) : Prop := ∀ (k : Nat) (ad : Nat → Nat) (ca : Nat → ClassId) (q : Nat × va_E), (rx_w (fun k => ad (g k)) ca a)[k]? = some q → (rx_w ad ca vh)[g k]? = some q
theorem rx_w_at {ad : Nat → Nat} {ca : Nat → ClassId} {vh : rx_H} {k : Nat} {q : Nat × va_E} (h : (rx_w ad ca vh)[k]? = some q) : ∃ e, vh[k]? = some e ∧ q = (ad k, rx_e ad ca e) := by
  unfold rx_w at h
  rw [List.getElem?_mapIdx] at h
  cases he : vh[k]? with
  | none => rw [he] at h; cases h
  | some e => rw [he] at h; cases h; exact ⟨e, rfl, rfl⟩
noncomputable def lfS (g : Nat → Nat) (un : Nat → Nat) (ex : rx_H → rx_H) (wri : rx_H → rx_H → rx_H) (F : rx_F) : rx_F := fun vh As => match F (ex vh) (As.map (rx_v un)) with
  | some (rv, a') => @ite _ (em g (ex vh) vh ∧ (As.map (rx_v un)).map (rx_v g) = As ∧ a'.length = (ex vh).length ∧ em g a' (wri vh a') ∧ (∀ j, (∀ k, k < a'.length → j ≠ g k) → (wri vh a')[j]? = vh[j]?) ∧ (wri vh a').length = vh.length ∧ (∀ f f', rv.map (rx_v f) = rv.map (rx_v f')) ∧ (∀ k, 1000000 ≤ k → g k = k) ∧ ∀ i j, i < a'.length → j < a'.length → g i = g j → i = j) (Classical.propDecidable _) (some (rv, wri vh a')) none
  | none => none
theorem lfS_eq {g un : Nat → Nat} {ex : rx_H → rx_H} {wri : rx_H → rx_H → rx_H} {F : rx_F} {vh a' : rx_H} {As : List Value} {rv : Option Value} (h : F (ex vh) (As.map (rx_v un)) = some (rv, a')) (hc : em g (ex vh) vh ∧ (As.map (rx_v un)).map (rx_v g) = As ∧ a'.length = (ex vh).length ∧ em g a' (wri vh a') ∧ (∀ j, (∀ k, k < a'.length → j ≠ g k) → (wri vh a')[j]? = vh[j]?) ∧ (wri vh a').length = vh.length ∧ (∀ f f', rv.map (rx_v f) = rv.map (rx_v f')) ∧ (∀ k, 1000000 ≤ k → g k = k) ∧ ∀ i j, i < a'.length → j < a'.length → g i = g j → i = j) : lfS g un ex wri F vh As = some (rv, wri vh a') := by
  unfold lfS
  rw [h]
  exact if_pos hc
theorem rx_w_len' {ad : Nat → Nat} {ca : Nat → ClassId} {vh : rx_H} : (rx_w ad ca vh).length = vh.length := rx_w_len
/-- what must hold before and after, of the larger world -/
theorem em_P {D : va_G} {tys : List (ClassId × FieldType)} {ca : Nat → ClassId} {ad g : Nat → Nat} {a vh : rx_H} {As : List Value} {sz : Nat} (h : em g a vh) (hg : ∀ k, 1000000 ≤ k → g k = k) (hi : ∀ i j, i < a.length → j < a.length → g i = g j → i = j) : ∀ (b : Array Value) (U : State), rx_P D tys ca ad vh (As.map (rx_v g)) sz b U → rx_P D tys ca (fun k => ad (g k)) a As sz b U := by
  intro b U ⟨h0, h1, hP, hK, hD, hJ⟩
  have hA : ∀ q, va_A (rx_w (fun k => ad (g k)) ca a) sz q → va_A (rx_w ad ca vh) sz q := by
    rintro q (⟨k, x, hk⟩ | hq)
    · exact Or.inl ⟨g k, x, h k ad ca _ hk⟩
    · exact Or.inr hq
  refine ⟨by rw [h0, rx_vs_v], h1, hP.by g (fun k q hk => h k ad ca q hk), hK, ?_, ?_⟩
  · refine hD.by g (fun k q hk => h k ad ca q hk) (fun i j hi' hj' e => hi i j ?_ ?_ e)
    · rw [rx_w_len] at hi'; exact hi'
    · rw [rx_w_len] at hj'; exact hj'
  · have hJ' : rx_J ad (va_A (rx_w (fun k => ad (g k)) ca a) sz) U U.heap := hJ.to (locs := []) va_S.rf hA (State.WarmedH.refl U)
    exact hJ'.congr (fun k hk => by show ad (g k) = ad k; rw [hg k hk])
theorem em_Q {D : va_G} {tys : List (ClassId × FieldType)} {ca : Nat → ClassId} {ad g : Nat → Nat} {a a' vh vh' : rx_H} {As : List Value} {sz mc : Nat} {rv : Option Value} (hm : mc = 0) (h : em g a vh) (hl : a'.length = a.length) (h' : em g a' vh') (ho : ∀ j, (∀ k, k < a'.length → j ≠ g k) → vh'[j]? = vh[j]?) (hn : vh'.length = vh.length) (hr : ∀ f f', rv.map (rx_v f) = rv.map (rx_v f')) :
    ∀ (b : Array Value) (s : State) (o : Outcome) (t : State), rx_P D tys ca ad vh As sz b s → rx_Q D ca (fun k => ad (g k)) a rv a' mc (va_A (rx_w (fun k => ad (g k)) ca a) sz) b s o t → rx_Q D ca ad vh rv vh' mc (va_A (rx_w ad ca vh) sz) b s o t := by
  intro b s o t ⟨_, h1, hP, _, hD, _⟩ ⟨⟨ad', g1, g2, g3, g4, ho', hP1, hD1⟩, hF⟩
  obtain rfl : ad' = fun k => ad (g k) := g2 hm
  have hA : ∀ q, va_A (rx_w (fun k => ad (g k)) ca a) sz q → va_A (rx_w ad ca vh) sz q := by
    rintro q (⟨k, x, hk⟩ | hq)
    · exact Or.inl ⟨g k, x, h k ad ca _ hk⟩
    · exact Or.inr hq
  have hin : ∀ (j : Nat) (q : Nat × va_E), (rx_w ad ca vh')[j]? = some q → ∃ q0, (rx_w ad ca vh)[j]? = some q0 ∧ q0.1 = q.1 := by
    intro j q hq
    obtain ⟨e, he, rfl⟩ := rx_w_at hq
    have hj : j < vh.length := by rw [← hn]; exact (List.getElem?_eq_some_iff.mp he).1
    exact ⟨_, rx_w_get (List.getElem?_eq_getElem hj), rfl⟩
  refine ⟨⟨ad, fun _ _ => rfl, fun _ => rfl, by omega, by omega, by rw [ho', hr (fun k => ad (g k)) ad], ?_, ?_⟩, ⟨hF.1, fun q q1 q2 => hF.2 q q1 (fun z => q2 (hA q z))⟩⟩
  · intro j q hq
    by_cases c : ∃ k, k < a'.length ∧ j = g k
    · obtain ⟨k, hk, rfl⟩ := c
      have hk' : k < (rx_w (fun k => ad (g k)) ca a').length := by rw [rx_w_len]; exact hk
      have e := h' k ad ca _ (List.getElem?_eq_getElem hk')
      rw [e] at hq
      cases hq
      exact hP1 k _ (List.getElem?_eq_getElem hk')
    · have c' : ∀ k, k < a'.length → j ≠ g k := fun k hk e => c ⟨k, hk, e⟩
      obtain ⟨e, he, rfl⟩ := rx_w_at hq
      rw [ho j c'] at he
      have e0 : (rx_w ad ca vh)[j]? = some (ad j, rx_e ad ca e) := rx_w_get he
      have at0 := hP j _ e0
      have hlt : ad j < s.heap.size := at0.lt
      refine at0.kept (hF.2 _ hlt ?_)
      rintro (⟨k, x, hk⟩ | hq)
      · have e1 := h k ad ca _ hk
        have := hD.1 _ _ _ _ e0 e1 rfl
        obtain ⟨e2, he2, _⟩ := rx_w_at hk
        exact c' k (by rw [hl]; exact (List.getElem?_eq_some_iff.mp he2).1) this
      · rw [h1] at hlt
        exact absurd hlt (by show ¬ ad j < sz; exact Nat.not_lt.mpr hq)
  · refine ⟨fun i j p q hp hq e => ?_, fun k q hq => ?_⟩
    · obtain ⟨p0, p1, p2⟩ := hin i p hp
      obtain ⟨q0, q1, q2⟩ := hin j q hq
      exact hD.1 i j p0 q0 p1 q1 (by rw [p2, q2]; exact e)
    · obtain ⟨q0, q1, q2⟩ := hin k q hq
      rw [← q2]
      exact va_A.in q1
theorem rx_M.lift {l : Launch} {y : MethodName} {ws : List Cond} {rm : Room} {F : rx_F} (g un : Nat → Nat) (ex : rx_H → rx_H) (wri : rx_H → rx_H → rx_H) (h : rx_M l y ws rm F) (hm : rm.cells = 0) : rx_M l y ws rm (lfS g un ex wri F) := by
  intro D tys ca ad vh As rv vh' sz hty hF
  unfold lfS at hF
  split at hF
  · rename_i rv0 a' hFa
    by_cases c : em g (ex vh) vh ∧ (As.map (rx_v un)).map (rx_v g) = As ∧ a'.length = (ex vh).length ∧ em g a' (wri vh a') ∧ (∀ j, (∀ k, k < a'.length → j ≠ g k) → (wri vh a')[j]? = vh[j]?) ∧ (wri vh a').length = vh.length ∧ (∀ f f', rv0.map (rx_v f) = rv0.map (rx_v f')) ∧ (∀ k, 1000000 ≤ k → g k = k) ∧ ∀ i j, i < a'.length → j < a'.length → g i = g j → i = j
    · rw [if_pos c] at hF
      cases hF
      obtain ⟨c1, c2, c3, c4, c5, c6, c7, c8, c9⟩ := c
      have M := h D tys ca (fun k => ad (g k)) (ex vh) (As.map (rx_v un)) rv a' sz hty hFa
      refine met_mono M (fun b U hP => ?_) (fun b s o t hP hQ => em_Q hm c1 c3 c4 c5 c6 c7 b s o t hP hQ) ?_
      · rw [← c2] at hP
        exact em_P c1 c8 (fun i j hi hj => c9 i j (by omega) (by omega)) b U hP
      · rintro q (⟨k, x, hk⟩ | hq)
        · exact Or.inl ⟨g k, x, c1 k ad ca _ hk⟩
        · exact Or.inr hq
    · rw [if_neg c] at hF
      cases hF
  · cases hF
