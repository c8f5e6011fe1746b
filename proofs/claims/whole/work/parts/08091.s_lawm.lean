/-! the law's own walk: runs that read the script (at the place 1000050) -/
noncomputable def ry_runL (kc : Nat → Option Value) (fl fp : Nat → Option (Nat × Nat × FieldType)) (gs fg : Nat → Option Nat) (nw : Nat → Option (Nat × Nat × List Value)) (cf : Instr → Option rx_C) (rt : Option FieldType) (mc ms : Nat) (cd : List (Nat × List (Instr × Nat))) (lds : List Nat) (pl Ls : Nat) (xs : Nat → Int32) (P : Nat) (St : rx_L → List Value → rx_H → Nat → Nat → Prop) : Nat → rx_K
  | 0, _, _, _, _, _, _ => none
  | n + 1, pc, ls, st, vh, nc, ns => bif Nat.beq pc P then @ite _ (St ls st vh nc ns) (Classical.propDecidable _) (some (none, vh)) none else
    bif lds.any (fun q => Nat.beq q pc) then (match st with
      | .int j :: .ref a :: r => bif Nat.beq a 1000050 then @ite _ (j < 0 ∨ Ls ≤ j.toNatClampNeg) (Classical.propDecidable _) none (ry_runL kc fl fp gs fg nw cf rt mc ms cd lds pl Ls xs P St n (pc + 1) ls (.int (xs j.toNatClampNeg) :: r) vh nc ns) else none
      | _ => none) else
    bif Nat.beq pc pl then (match st with
      | .ref a :: r => bif Nat.beq a 1000050 then ry_runL kc fl fp gs fg nw cf rt mc ms cd lds pl Ls xs P St n (pc + 1) ls (.int (Int32.ofNat Ls) :: r) vh nc ns else none
      | _ => none) else
    match rx_lkb cd pc with
    | some is => ry_blk kc fl fp gs fg nw cf rt mc ms (ry_runL kc fl fp gs fg nw cf rt mc ms cd lds pl Ls xs P St n) is pc ls st vh nc ns
    | none => none
theorem rx_ret_b {i : Instr} {len : Nat} {st : List Value} (h : rx_ret (some .boolean) i len st = some none) : False := by
  unfold rx_ret at h
  split at h <;> simp_all
  rename_i x
  cases hq : (decide (x = 0) || decide (x = 1)) <;> simp only [hq, cond_true, cond_false, Option.some.injEq, reduceCtorEq] at h
theorem rx_ret_b1 {i : Instr} {len : Nat} {st : List Value} {x : Int32} (h : rx_ret (some .boolean) i len st = some (some (.int x))) : i = .ireturn ∧ len = 1 ∧ st = [.int x] := by
  unfold rx_ret at h
  split at h <;> simp_all
  rename_i y
  cases hq : (decide (y = 0) || decide (y = 1)) <;> simp only [hq, cond_true, cond_false, Option.some.injEq, reduceCtorEq] at h
  cases h
  rfl
/-- a call, its conditions apart -/
theorem ry_cw {C : rx_C} {mc ms : Nat} {ls : rx_L} {st : List Value} {vh : rx_H} {nc ns : Nat} {K : rx_K5} {q : Option Value × rx_H} {x : rx_R} (h1 : Nat.ble (nc + C.2.2.1) mc = true) (h2 : Nat.ble (ns + C.2.2.2.1) ms = true) (h3 : (Nat.ble C.1 st.length && Nat.ble (((st.drop C.1).map Value.category).sum) 8) = true) (h4 : (rx_rcv C.2.1 (st.take C.1).reverse vh && (Nat.beq C.2.2.1 0 || rx_wf vh.length ls (st.drop C.1) [])) = true) (hF : C.2.2.2.2 vh (st.take C.1).reverse = some q) (e : K ls (q.1.toList ++ st.drop C.1) q.2 (nc + C.2.2.1) (ns + C.2.2.2.1) = x) : ry_cal C mc ms 3 ls st vh nc ns K = x := by
  unfold ry_cal
  rw [Bool.and_eq_true] at h3
  rw [h1, h2, h3.1, h3.2, h4, hF]
  exact e
section RXL
variable {p : Program} {l : Launch} {e : Env} {R : Room} {s : State} {m : MethodId} {args : Array Value} {below : List Frame} {meth : Method} {c : Code} {Q : State → Prop} {cc : ByteArray} {nL : Nat} {D : va_G} {cl : List vw_C} {ca : Nat → ClassId} {A : Nat → Prop} {ad0 : Nat → Nat} {n0 mc ms : Nat}
variable {tys : List (ClassId × FieldType)} {own nm : String} {Ts : List Cond} {kc : Nat → Option Value} {fl fp : Nat → Option (Nat × Nat × FieldType)} {gs fg : Nat → Option Nat} {nw : Nat → Option (Nat × Nat × List Value)} {cf : Instr → Option rx_C}
set_option maxHeartbeats 1000000 in
theorem ry_runL_ok {rt : Option FieldType} {rs : Option Value × rx_H} {cd : List (Nat × List (Instr × Nat))} {lds : List Nat} {pl Ls b : Nat} {xs : Nat → Int32} {P : Nat} {St : rx_L → List Value → rx_H → Nat → Nat → Prop} (X : rx_X p l e R s m args below meth c Q cc nL D cl ca A ad0 mc ms tys own nm Ts kc fl fp gs fg nw cf) (hcd : cd.all (fun q => rx_dec cc nL q.1 q.2) = true)
    (hld : lds.all (fun q => decide (decode cc q = .ok (.iaload, 1))) = true) (hpl : decode cc pl = .ok (.arraylength, 1)) (hX : va_X b Ls xs s s.heap) (hbl : b < s.heap.size) (hbA : ¬ A b) (had : ad0 1000050 = b)
    (hE : ∀ i len pc ls st nc ns, rx_ret rt i len st = some rs.1 → decode cc pc = .ok (i, len) → rx_G p l e R s m args below meth c Q nL D cl ca A ad0 n0 mc ms pc ls st rs.2 nc ns)
    (hP : ∀ (ls : rx_L) (st : List Value) (vh : rx_H) (nc ns : Nat), rs = (none, vh) → St ls st vh nc ns → rx_G p l e R s m args below meth c Q nL D cl ca A ad0 n0 mc ms P ls st vh nc ns) :
    ∀ (n pc : Nat) (ls : rx_L) (st : List Value) (vh : rx_H) (nc ns : Nat), ry_runL kc fl fp gs fg nw cf rt mc ms cd lds pl Ls xs P St n pc ls st vh nc ns = some rs → rx_G p l e R s m args below meth c Q nL D cl ca A ad0 n0 mc ms pc ls st vh nc ns
  | 0, _, _, _, _, _, _, h => by cases h
  | n + 1, pc, ls, st, vh, nc, ns, h => by
    unfold ry_runL at h
    cases hb : Nat.beq pc P with
    | true =>
      rw [hb, cond_true] at h
      split at h
      · rename_i hc
        cases h
        rw [Nat.eq_of_beq_eq_true hb]
        exact hP ls _ _ _ _ rfl hc
      · cases h
    | false =>
      rw [hb, cond_false] at h
      cases ha : lds.any (fun q => Nat.beq q pc) with
      | true =>
        rw [ha, cond_true] at h
        have hd : decode cc pc = .ok (.iaload, 1) := by
          obtain ⟨q, q1, q2⟩ := List.any_eq_true.mp ha
          rw [← Nat.eq_of_beq_eq_true q2]
          exact of_decide_eq_true (List.all_eq_true.mp hld q q1)
        split at h
        · rename_i j a r
          cases hq : Nat.beq a 1000050 with
          | false => rw [hq, cond_false] at h; cases h
          | true =>
            rw [hq, cond_true] at h
            obtain rfl := Nat.eq_of_beq_eq_true hq
            split at h
            · cases h
            · rename_i hin
              have k := ry_runL_ok X hcd hld hpl hX hbl hbA had hE hP n _ _ _ _ _ _ h
              intro ad H locs lsA h1 h2 h3 h4 h5 h6 hP' hD' hS' hl'
              have e := k ad H locs lsA h1 h2 h3 h4 h5 h6 hP' hD' hS' hl'
              show W p l _ R s m args below meth c H locs nc ns Q (F0 m pc lsA (.int j :: .ref (ad 1000050) :: r.map (rx_v ad)))
              rw [h1 1000050 (Or.inr (by decide)), had]
              exact va_sld X.1 X.2.1 hX hbl hbA hS' hin hd e
        · cases h
      | false =>
        rw [ha, cond_false] at h
        cases hc : Nat.beq pc pl with
        | true =>
          rw [hc, cond_true] at h
          obtain rfl := Nat.eq_of_beq_eq_true hc
          split at h
          · rename_i a r
            cases hq : Nat.beq a 1000050 with
            | false => rw [hq, cond_false] at h; cases h
            | true =>
              rw [hq, cond_true] at h
              obtain rfl := Nat.eq_of_beq_eq_true hq
              have k := ry_runL_ok X hcd hld hpl hX hbl hbA had hE hP n _ _ _ _ _ _ h
              intro ad H locs lsA h1 h2 h3 h4 h5 h6 hP' hD' hS' hl'
              have e := k ad H locs lsA h1 h2 h3 h4 h5 h6 hP' hD' hS' hl'
              show W p l _ R s m args below meth c H locs nc ns Q (F0 m pc lsA (.ref (ad 1000050) :: r.map (rx_v ad)))
              rw [h1 1000050 (Or.inr (by decide)), had]
              exact va_slen X.1 X.2.1 hX hbl hbA hS' hpl e
          · cases h
        | false =>
          rw [hc, cond_false] at h
          split at h
          · rename_i is hi
            rw [ry_blk_eq] at h
            exact rx_blk_ok X (ry_runL_ok X hcd hld hpl hX hbl hbA had hE hP n) hE is pc ls st vh nc ns (List.all_eq_true.mp hcd (pc, is) (rx_lkb_mem hi)) h
          · cases h
end RXL
