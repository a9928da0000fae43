/-! a call of one of our own methods -/
section AMY
variable {p : Program} {l0 : Launch} {e : Env} {R : Room} {s : State} {m : MethodId} {args : Array Value} {below : List Frame} {meth : Method} {c : Code} {H : Heap} {locs : List Loc} {cells slots : Nat} {Q : State → Prop}
variable {cc : ByteArray} {pc : Nat} {ls : Array Slot} {D : va_G} {cl : List vw_C} {tyL : List (List FieldType)} {b : Nat} {Hb : Heap} {S : am_S} {own : String} {Ts : List Cond} {AO : List String} {NL : am_NL} {KL : Nat} {P : List am_M}
theorem am_back {rest st0 : List Value} {a : Array Value} {r : Option Value} {S1 : am_S} {mc ms : Nat} (hr : va_Run p l0 e R s m args below meth c H locs cells slots mc ms (F0 m pc ls st0) (rest.map (am_cv (am_ad b Hb.size))) (am_Qc D cl b Hb r S1 a) (fun q => Hb.size ≤ q)) (hL : ∀ q ∈ locs, Hb.size ≤ q.base)
    (kk : ∀ (H1 : Heap) (locs1 : List Loc), am_R D cl b Hb S1 s H1 → (∀ q ∈ locs1, Hb.size ≤ q.base) → W p l0 e R s m args below meth c H1 locs1 (cells + mc) (slots + ms) Q (F0 m (pc + 3) ls ((r.toList ++ rest).map (am_cv (am_ad b Hb.size))))) : W p l0 e R s m args below meth c H locs cells slots Q (F0 m pc ls st0) := by
  intro T hT X
  obtain ⟨v, st₀, t, T', L, h0, X', hL', e1, e2, ⟨hv, hR1⟩, st⟩ := hr T hT X
  cases hv
  have hal : t.vm.Alike s.vm := by rw [← e2]; exact X'.warmed.alike.symm
  obtain ⟨t2, a1, b1⟩ := kk T'.heap (locs ++ L) (by rw [e1]; exact hR1.moved hal) (fun q hq => by
    rcases List.mem_append.mp hq with h | h
    · exact hL q h
    · exact hL' q h) T' rfl X'
  refine ⟨t2, st t2 ?_, b1⟩
  have e3 : (r.map (am_cv (am_ad b Hb.size))).toList ++ rest.map (am_cv (am_ad b Hb.size)) = (r.toList ++ rest).map (am_cv (am_ad b Hb.size)) := by
    cases r <;> simp
  rw [e3]
  exact a1
theorem am_Pc_blind {as : List Value} : FrameBlind (am_Pc D cl b Hb AO NL as S) := by
  intro a U g mk h
  obtain ⟨h1, h2, h3, h4, h5⟩ := h
  exact ⟨h1, am_R.moved (t := U.calling g mk a) (Vm.Alike.refl U.vm) h2, va_K.moved (u := U) (U := U.calling g mk a) (Vm.Alike.refl U.vm) h3, fun C hC => va_AO.moved (u := U) (U := U.calling g mk a) (Vm.Alike.refl U.vm) (h4 C hC), fun q hq => va_Nw.same (u := U) (U := U.calling g mk a) rfl rfl (h5 q hq)⟩
theorem am_Pc_at {as : List Value} (hR : am_R D cl b Hb S s H) (hK : am_Kx D cl AO NL s) : ∀ U : State, U.heap = H → s.WarmedH U.vm → am_Pc D cl b Hb AO NL as S (as.map (am_cv (am_ad b Hb.size))).toArray U := by
  intro U hU hW
  exact ⟨rfl, by rw [hU]; exact hR.moved hW.alike, hK.warm hW⟩
set_option maxHeartbeats 2000000 in
theorem am_own_ok (hF : am_Fix Ts P cl tyL AO NL KL) (hx : p.tables.exec = Jvm.exec) (hb : c.code = cc) (hml : c.maxLocals = ls.size) (hts : ∀ w ∈ Ts, w.before args s = true) (hown : s.vm.findClass own = some m.cls) (hK : am_Kx D cl AO NL s) {d c1 n1 : Nat} (hRf : d + 1 ≤ R.frames) (hRl : (d + 1) * KL ≤ R.locals) (hcs : cells + c1 ≤ R.cells) (hss : slots + n1 ≤ R.slots) (hR : am_R D cl b Hb S s H) (hL : ∀ q ∈ locs, Hb.size ≤ q.base) {i j : Nat} (hlink : ∀ M', P[j]? = some M' → Cond.methodLink own i M'.1 ∈ Ts ∨ ∃ host, (own, i, M'.1, host) ∈ NL ∧ M'.2.2.2.2.2.2.2 = 2000) {ins : Instr} {st as rest : List Value} {M' : am_M} {r : Option Value} {S1 : am_S} (hi : am_cix ins 3 = some i) (hd : decode cc pc = .ok (ins, 3)) (h : am_own P j ins st S = some (M', as, rest))
    (hMet : Met l0 M'.1 (Cond.code M'.1 M'.2.1 M'.2.2.1 M'.2.2.2.1 :: Ts) (am_rm KL d c1 n1) (am_Pc D cl b Hb AO NL as S) (am_Qc D cl b Hb r S1) c1 n1 (fun q => Hb.size ≤ q))
    (kk : ∀ (H1 : Heap) (locs1 : List Loc), am_R D cl b Hb S1 s H1 → (∀ q ∈ locs1, Hb.size ≤ q.base) → W p l0 e R s m args below meth c H1 locs1 (cells + c1) (slots + n1) Q (F0 m (pc + 3) ls ((r.toList ++ rest).map (am_cv (am_ad b Hb.size))))) : W p l0 e R s m args below meth c H locs cells slots Q (F0 m pc ls (st.map (am_cv (am_ad b Hb.size)))) := by
  obtain ⟨hC, -, hgood, -, -, -, -, ⟨-, hcl⟩, hP⟩ := hF
  unfold am_own at h
  split at h
  · cases h
  · rename_i M hM
    obtain ⟨-, hpl, hcode, hini, hmh, hpar, hKL, hst0, hsp0, hvi0⟩ := hP M (List.mem_of_getElem? hM)
    have hroom : 8 + (M.2.2.1 + 11) + d * KL ≤ R.locals := by
      have : (d + 1) * KL = d * KL + KL := Nat.succ_mul d KL
      omega
    have hpay : ∀ w ∈ (Cond.code M.1 M.2.1 M.2.2.1 M.2.2.2.1 :: Ts), ∀ (a' : Array Value) (U : State), s.WarmedH U.vm → w.before a' U = true := by
      intro w hw a' U hW
      have hw' : w ∈ Ts := by
        rcases List.mem_cons.mp hw with q | q
        · rw [q]; exact hcode
        · exact q
      exact word_at hW (good_of_word (hgood w hw')) (hts w hw')
    have hlen : ∀ sig, parseMethodDescriptor M.1.desc = some sig → M.2.2.2.2.2.2.1 = sig.parameters.length := by
      intro sig hs
      rw [hs] at hpar
      exact (Option.some.inj hpar).symm
    split at h
    · cases h
    · rename_i hlt
      have htl : ((st.take M.2.2.2.2.2.2.1).reverse.map (am_cv (am_ad b Hb.size))).length = M.2.2.2.2.2.2.1 := by
        rw [List.length_map, List.length_reverse, List.length_take]
        omega
      have hstk : ∀ rs : List Value, st.drop M.2.2.2.2.2.2.1 = rs → st.map (am_cv (am_ad b Hb.size)) = ((st.take M.2.2.2.2.2.2.1).reverse.map (am_cv (am_ad b Hb.size))).reverse ++ rs.map (am_cv (am_ad b Hb.size)) := by
        intro rs hrs
        rw [← List.map_reverse, List.reverse_reverse, ← List.map_append, ← hrs, List.take_append_drop]
      have hB : Cond.methodLink own i M.1 ∈ Ts → CallB R s args own i M.1 M.2.1 M.2.2.1 M.2.2.2.1 (Cond.code M.1 M.2.1 M.2.2.1 M.2.2.2.1 :: Ts) (am_rm KL d c1 n1) c1 n1 M.2.2.2.2.2.2.1 := fun hlk => ⟨rfl, rfl, hRf, hroom, hpay, List.mem_cons_self, hts _ hcode, hts _ hini, hmh, hlen, hts _ hlk⟩
      split at h
      · -- static
        rename_i rs hrs
        split at h
        · rename_i hc
          obtain ⟨hk, hw, -⟩ := hc
          cases h
          cases hi
          have hlk : Cond.methodLink own i M'.1 ∈ Ts := by
            rcases hlink M' hM with q | ⟨_, _, q⟩
            · exact q
            · rw [hk] at q; cases q
          refine am_back (rest := st.drop M'.2.2.2.2.2.2.1) (va_runS (As := (st.take M'.2.2.2.2.2.2.1).reverse.map (am_cv (am_ad b Hb.size))) ⟨hx, hb, hml, hown, hts⟩ hMet ⟨hB hlk, hts _ (hst0 hk)⟩ ⟨am_Pc_blind, am_Pc_at hR hK⟩ rfl htl rfl (hstk _ rfl) (by show 2 * 0 + _ ≤ 8; rw [am_words_cv]; omega) hd ⟨hcs, hss⟩) hL kk
        · cases h
      · -- special
        rename_i b0 rs hrs
        split at h
        · rename_i hc
          obtain ⟨hk, hw, -⟩ := hc
          cases h
          cases hi
          obtain ⟨hn, hinst, hret⟩ := hsp0 hk
          rw [hret] at hMet hB hpay hcode
          rcases hlink M' hM with hlk | ⟨host, hnl, -⟩
          · exact am_back (va_runI (b := am_ad b Hb.size b0) (As := (st.take M'.2.2.2.2.2.2.1).reverse.map (am_cv (am_ad b Hb.size))) ⟨hx, hb, hml, hown, hts⟩ hMet ⟨hB hlk, hn, hts _ hinst⟩ ⟨am_Pc_blind, am_Pc_at hR hK⟩ rfl htl rfl (hstk _ hrs) (by show 2 * 0 + _ ≤ 8; rw [am_words_cv]; omega) hd ⟨hcs, hss⟩) hL kk
          · exact am_back (va_runIN (host := host) (b := am_ad b Hb.size b0) (As := (st.take M'.2.2.2.2.2.2.1).reverse.map (am_cv (am_ad b Hb.size))) ⟨hx, hb, hml, hown, hts⟩ hMet ⟨⟨⟨rfl, rfl, hRf, hroom, hpay, List.mem_cons_self⟩, hts _ hcode, hts _ hini, hmh, hlen, va_Nw.use rfl (hK.2.2 _ hnl)⟩, hn, hts _ hinst⟩ ⟨am_Pc_blind, am_Pc_at hR hK⟩ rfl htl rfl (hstk _ hrs) (by show 2 * 0 + _ ≤ 8; rw [am_words_cv]; omega) hd ⟨hcs, hss⟩) hL kk
        · cases h
      · -- virtual
        rename_i b0 rs hrs
        split at h
        · rename_i z ci fs hS
          split at h
          · rename_i hc
            obtain ⟨hk, hw, -⟩ := hc
            cases h
            cases hi
            subst hk
            obtain ⟨j0, rr, rfl, -, h1, h2, cell, q1, q2, q3, q4⟩ := hR.obj hS
            obtain ⟨hnm, hinst, hsel⟩ := hvi0 rr h1
            have hlk : Cond.methodLink own i M'.1 ∈ Ts := by
              rcases hlink M' hM with q | ⟨_, _, q⟩
              · exact q
              · have h9 := (List.getElem?_eq_some_iff.mp h1).1
                omega
            exact am_back (va_runV (C := M'.1.cls) (b := Hb.size + j0) (As := (st.take M'.2.2.2.2.2.2.1).reverse.map (am_cv (am_ad b Hb.size))) ⟨hx, hb, hml, hown, hts⟩ hMet ⟨hB hlk, hts _ hinst, hts _ hsel⟩ ⟨am_Pc_blind, ⟨cell, q1, by rw [q3]; rfl, by rw [q2, ← hnm]; exact (hK.1.1 _ _ h1).2.1⟩, am_Pc_at hR hK⟩ rfl htl rfl (hstk _ hrs) (by show 2 * 0 + _ ≤ 8; rw [am_words_cv]; omega) hd ⟨hcs, hss⟩) hL kk
          · cases h
        · cases h
      · cases h
end AMY
