/-! the machine itself at the law -/
section L5
variable {p : Program} {l0 : Launch} {e : Env} {R : Room} {s : State} {m : MethodId} {args : Array Value} {below : List Frame} {meth : Method} {c : Code} {Q : State → Prop} {D : va_G} {b : Nat} {Hb : Heap}
def lwW (p : Program) (l0 : Launch) (e : Env) (R : Room) (s : State) (m : MethodId) (args : Array Value) (below : List Frame) (meth : Method) (c : Code) (Q : State → Prop) (D : va_G) (b : Nat) (Hb : Heap) : lwT := fun cells slots S lc pc st => ∀ (H : Heap) (locs : List Loc) (ls : Array Slot), cells ≤ R.cells → slots ≤ R.slots → am_R D at_cl b Hb S s H → (∀ q ∈ locs, Hb.size ≤ q.base) → lv_has ls 7 (am_cl (am_ad b Hb.size) lc) → W p l0 e R s m args below meth c H locs cells slots Q (F0 m pc ls (st.map (am_cv (am_ad b Hb.size))))
set_option maxRecDepth 100000 in
set_option maxHeartbeats 4000000 in
theorem lwW_feed (hIn : am_In at_Ts D at_cl at_AO at_NL mt_law p s m args meth c) (hRf : 60 ≤ R.frames) (hRl : 3600 ≤ R.locals) (f cells slots : Nat) (S S' : am_S) (lc : am_L) (x1 x2 x3 x4 x5 : Int32) (r : Option Value) (h1 : am_run at_P at_cl at_ty f 50 mt_lfeed 0 (lv_args 0 [.ref 1, .int x1, .int x2, .int x3, .int x4, .int x5, .ref 1899]) [] S = some (r, S', 0, 0)) (k : lwW p l0 e R s m args below meth c Q D b Hb cells slots S' lc 183 r.toList) : lwW p l0 e R s m args below meth c Q D b Hb cells slots S lc 180 [.ref 1899, .int x5, .int x4, .int x3, .int x2, .int x1, .ref 1] := by
  intro H locs ls hc hs hR hL hl
  obtain ⟨hx, hb, hml, hnm, hown, hts, hK⟩ := hIn
  refine am_runSW (M := mt_lfeed) (as := [.ref 1, .int x1, .int x2, .int x3, .int x4, .int x5, .ref 1899]) (rest := []) (d := 50) (hh := [(0, 16, 19, 13)]) (S1 := S') at_Fix.2.2.1 hx hb (hml.trans hl.1.symm) hts hown hK (by omega) (by omega) (c1 := 0) (n1 := 0) (by omega) (by omega) hR hL (at_at 1143 rfl rfl) (at_at 1144 rfl rfl) (at_at 0 rfl rfl) (hts _ (at_at 1145 rfl rfl)) (by decide) (by decide) rfl (by decide) (by decide +kernel) (am_metW (by decide) (Nat.le_of_ble_eq_true rfl) (am_sound at_Fix f 50 mt_lfeed bd_lfeed 0 _ [] _ _ S' 0 0 h1)) (fun H1 locs1 hR1 hL1 => ?_)
  rw [List.append_nil]
  exact k H1 locs1 ls hc hs hR1 hL1 hl
set_option maxRecDepth 100000 in
set_option maxHeartbeats 4000000 in
theorem lwW_end (hIn : am_In at_Ts D at_cl at_AO at_NL mt_law p s m args meth c) (hRf : 60 ≤ R.frames) (hRl : 3600 ≤ R.locals) (f cells slots : Nat) (S S' : am_S) (lc : am_L) (x1 : Int32) (r : Option Value) (h1 : am_run at_P at_cl at_ty f 50 mt_lend 0 (lv_args 0 [.ref 1, .int x1]) [] S = some (r, S', 0, 0)) (k : lwW p l0 e R s m args below meth c Q D b Hb cells slots S' lc 234 r.toList) : lwW p l0 e R s m args below meth c Q D b Hb cells slots S lc 231 [.int x1, .ref 1] := by
  intro H locs ls hc hs hR hL hl
  obtain ⟨hx, hb, hml, hnm, hown, hts, hK⟩ := hIn
  refine am_runSW (M := mt_lend) (as := [.ref 1, .int x1]) (rest := []) (d := 50) (hh := [(0, 5, 8, 19)]) (S1 := S') at_Fix.2.2.1 hx hb (hml.trans hl.1.symm) hts hown hK (by omega) (by omega) (c1 := 0) (n1 := 0) (by omega) (by omega) hR hL (at_at 1222 rfl rfl) (at_at 1223 rfl rfl) (at_at 0 rfl rfl) (hts _ (at_at 1224 rfl rfl)) (by decide) (by decide) rfl (by decide) (by decide +kernel) (am_metW (by decide) (Nat.le_of_ble_eq_true rfl) (am_sound at_Fix f 50 mt_lend bd_lend 0 _ [] _ _ S' 0 0 h1)) (fun H1 locs1 hR1 hL1 => ?_)
  rw [List.append_nil]
  exact k H1 locs1 ls hc hs hR1 hL1 hl
set_option maxRecDepth 100000 in
set_option maxHeartbeats 4000000 in
theorem lwW_feedT (hst : ∀ e : Env, l0.admits e → e.platform.stackTraces = false) (hTX : am_TX Hb "EquationProofs" 79 "the tape has no room for twenty bytes more" s) (hIn : am_In at_Ts D at_cl at_AO at_NL mt_law p s m args meth c) (hRf : 60 ≤ R.frames) (hRl : 3600 ≤ R.locals) (n cells slots z : Nat) (fs : List Value) (S : am_S) (lc l' : am_L) (x1 x2 x3 x4 x5 : Int32) (hC : cells + 1 ≤ R.cells) (hN : slots + 6 ≤ R.slots) (hS : am_nth S 1 = some (z, some (.inr (0, fs)))) (hro : am_ro mt_1 S n 0 (lv_args 0 [.ref 1, .int x1, .int x2, .int x3, .int x4, .int x5]) [] = some (13, l', [])) (k : lwW p l0 e R s m args below meth c Q D b Hb (cells + 1) (slots + 6) (am_add S (6, none)) lc 183 [.int 1]) : lwW p l0 e R s m args below meth c Q D b Hb cells slots S lc 180 [.ref 1899, .int x5, .int x4, .int x3, .int x2, .int x1, .ref 1] := by
  intro H locs ls hc hs hR hL hl
  obtain ⟨hx, hb, hml, hnm, hown, hts, hK⟩ := hIn
  have hM2 : mt_1 ∈ at_P := List.mem_of_getElem? (i := 1) rfl
  have hMT := am_metT (D := D) (b := b) (Hb := Hb) (l0 := l0) (d := 49) (tx := "the tape has no room for twenty bytes more") (X := "java/lang/IllegalStateException") (names := ["java/lang/RuntimeException", "java/lang/Exception"]) (inw := 77) (il := 79) (ic := 81) at_Fix hM2 (Nat.le_of_ble_eq_true rfl) hst hro (by decide +kernel) (by decide +kernel) (by decide +kernel) (by decide +kernel) (by decide +kernel) (at_at 1151 rfl rfl) (at_at 1152 rfl rfl) (at_at 19 rfl rfl) (by decide +kernel) (by decide +kernel) oa_ise (by decide) (by decide)
  have hMet := am_metWT (M := mt_lfeed) (as := [.ref 1, .int x1, .int x2, .int x3, .int x4, .int x5, .ref 1899]) (xs := [.int x1, .int x2, .int x3, .int x4, .int x5]) (rest := [.int 0, .ref 1899]) (b0 := 1) (n := 8) (pcI := 11) (l' := lv_args 0 [.ref 1, .int x1, .int x2, .int x3, .int x4, .int x5, .ref 1899]) (i := 7) (t0 := 0) (t1 := 16) (hp := 19) (ct := 13) (f := 3) (r := some (.int 1)) at_Fix bd_lfeed (by decide) (Nat.le_of_ble_eq_true rfl) rfl (by decide) hM2 (at_at 1147 rfl rfl) rfl hS hMT (by decide) (by decide) (by decide) (at_at 1146 rfl rfl) (by decide +kernel) rfl
  refine am_runSWT (M := mt_lfeed) (as := [.ref 1, .int x1, .int x2, .int x3, .int x4, .int x5, .ref 1899]) (rest := []) (d := 50) (hh := [(0, 16, 19, 13)]) at_Fix.2.2.1 hx hb (hml.trans hl.1.symm) hts hown hK (by omega) (by omega) (c1 := 1) (n1 := 6) (by omega) (by omega) hR hL (at_at 1143 rfl rfl) (at_at 1144 rfl rfl) (at_at 0 rfl rfl) (hts _ (at_at 1145 rfl rfl)) (by decide) (by decide) rfl (by decide) (by decide +kernel) hTX hMet (fun H1 locs1 hR1 hL1 => ?_)
  exact k H1 locs1 ls hC hN hR1 hL1 hl
set_option maxRecDepth 100000 in
set_option maxHeartbeats 4000000 in
theorem lwW_endT (hst : ∀ e : Env, l0.admits e → e.platform.stackTraces = false) (hTX : am_TX Hb "EquationProofs" 89 "the tape has not so many bytes" s) (hIn : am_In at_Ts D at_cl at_AO at_NL mt_law p s m args meth c) (hRf : 60 ≤ R.frames) (hRl : 3600 ≤ R.locals) (n cells slots z : Nat) (fs : List Value) (S : am_S) (lc l' : am_L) (x1 : Int32) (hC : cells + 1 ≤ R.cells) (hN : slots + 6 ≤ R.slots) (hS : am_nth S 1 = some (z, some (.inr (0, fs)))) (hro : am_ro mt_2 S n 0 (lv_args 0 [.ref 1, .int x1]) [] = some (15, l', [])) (k : lwW p l0 e R s m args below meth c Q D b Hb (cells + 1) (slots + 6) (am_add S (6, none)) lc 234 [.int 1]) : lwW p l0 e R s m args below meth c Q D b Hb cells slots S lc 231 [.int x1, .ref 1] := by
  intro H locs ls hc hs hR hL hl
  obtain ⟨hx, hb, hml, hnm, hown, hts, hK⟩ := hIn
  have hM2 : mt_2 ∈ at_P := List.mem_of_getElem? (i := 2) rfl
  have hMT := am_metT (D := D) (b := b) (Hb := Hb) (l0 := l0) (d := 49) (tx := "the tape has not so many bytes") (X := "java/lang/IllegalArgumentException") (names := ["java/lang/RuntimeException", "java/lang/Exception"]) (inw := 87) (il := 89) (ic := 91) at_Fix hM2 (Nat.le_of_ble_eq_true rfl) hst hro (by decide +kernel) (by decide +kernel) (by decide +kernel) (by decide +kernel) (by decide +kernel) (at_at 1230 rfl rfl) (at_at 1231 rfl rfl) (at_at 20 rfl rfl) (by decide +kernel) (by decide +kernel) oa_iae (by decide) (by decide)
  have hMet := am_metWT (M := mt_lend) (as := [.ref 1, .int x1]) (xs := [.int x1]) (rest := []) (b0 := 1) (n := 2) (pcI := 2) (l' := lv_args 0 [.ref 1, .int x1]) (i := 15) (t0 := 0) (t1 := 5) (hp := 8) (ct := 19) (f := 3) (r := some (.int 1)) at_Fix bd_lend (by decide) (Nat.le_of_ble_eq_true rfl) rfl (by decide) hM2 (at_at 1226 rfl rfl) rfl hS hMT (by decide) (by decide) (by decide) (at_at 1225 rfl rfl) (by decide +kernel) rfl
  refine am_runSWT (M := mt_lend) (as := [.ref 1, .int x1]) (rest := []) (d := 50) (hh := [(0, 5, 8, 19)]) at_Fix.2.2.1 hx hb (hml.trans hl.1.symm) hts hown hK (by omega) (by omega) (c1 := 1) (n1 := 6) (by omega) (by omega) hR hL (at_at 1222 rfl rfl) (at_at 1223 rfl rfl) (at_at 0 rfl rfl) (hts _ (at_at 1224 rfl rfl)) (by decide) (by decide) rfl (by decide) (by decide +kernel) hTX hMet (fun H1 locs1 hR1 hL1 => ?_)
  exact k H1 locs1 ls hC hN hR1 hL1 hl
theorem lwW_ok (hst : ∀ e : Env, l0.admits e → e.platform.stackTraces = false) (hT1 : am_TX Hb "EquationProofs" 79 "the tape has no room for twenty bytes more" s) (hT2 : am_TX Hb "EquationProofs" 89 "the tape has not so many bytes" s) (hIn : am_In at_Ts D at_cl at_AO at_NL mt_law p s m args meth c) (hRf : 60 ≤ R.frames) (hRl : 3600 ≤ R.locals) (hend : ∀ (H1 : Heap) (locs1 : List Loc) (ls1 : Array Slot) (cells slots : Nat), cells ≤ R.cells → slots ≤ R.slots → (∀ q ∈ locs1, Hb.size ≤ q.base) → W p l0 e R s m args below meth c H1 locs1 cells slots Q (F0 m 965 ls1 [.int 1])) : lwA R.cells R.slots (lwW p l0 e R s m args below meth c Q D b Hb) := by
  refine ⟨?_, ?_, ?_, ?_, fun f cells slots S S' lc x1 x2 x3 x4 x5 r h k => lwW_feed hIn hRf hRl f cells slots S S' lc x1 x2 x3 x4 x5 r h k, fun n cells slots z fs S lc l' x1 x2 x3 x4 x5 h1 h2 h3 h4 k => lwW_feedT hst hT1 hIn hRf hRl n cells slots z fs S lc l' x1 x2 x3 x4 x5 h1 h2 h3 h4 k, fun f cells slots S S' lc x1 r h k => lwW_end hIn hRf hRl f cells slots S S' lc x1 r h k, fun n cells slots z fs S lc l' x1 h1 h2 h3 h4 k => lwW_endT hst hT2 hIn hRf hRl n cells slots z fs S lc l' x1 h1 h2 h3 h4 k⟩
  · intro n cells slots S lc pc st pc' lc' st' h k H locs ls hc hs hR hL hl
    exact am_ro_ok at_Fix.1 bd_law hIn hR n h hl (fun ls1 hl1 => k H locs ls1 hc hs hR hL hl1)
  · intro cells slots S lc lc' pc st hsub k H locs ls hc hs hR hL hl
    refine k H locs ls hc hs hR hL ⟨hl.1, hl.2.1, fun q hq => ?_⟩
    obtain ⟨q0, h0, rfl⟩ := List.mem_map.mp hq
    exact hl.2.2 _ (List.mem_map.mpr ⟨q0, hsub q0 h0, rfl⟩)
  · intro f cells slots S lc pc st pc' lc' st' S' h k H locs ls hc hs hR hL hl
    exact am_one_ok at_Fix bd_law h p e R s m args below meth c H locs cells slots Q ls hIn (by omega) (by omega) (by omega) (by omega) hR hL hl (fun H1 locs1 ls1 hR1 hL1 hl1 => k H1 locs1 ls1 hc hs hR1 hL1 hl1)
  · intro cells slots S lc H locs ls hc hs hR hL hl
    exact hend H locs ls cells slots hc hs hL
end L5
