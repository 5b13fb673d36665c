/-! The law's own body. -/
def xv (xs : Nat → Int32) (j : Int) : Int := (xs j.toNat).toInt
theorem xv_in {xs : Nat → Int32} {j : Int} : inR (xv xs j) := inR_toInt _
section LRow
variable {p : Program} {l : Launch} {e : Env} {R : Room} {s : State} {m : MethodId} {args : Array Value} {below : List Frame} {meth : Method} {c : Code} {H : Heap} {locs : List Loc} {cells slots : Nat} {Q : State → Prop}
variable {cc : ByteArray} {pc : Nat} {ls : Array Slot} {rest : List Value} {A : Nat → Prop} {H0 : Heap}
theorem l_sld (hx : p.tables.exec = Jvm.exec) (hb : c.code = cc) {b L : Nat} {xs : Nat → Int32} (hX : va_X b L xs s H0) (hbl : b < H0.size) (hbA : ¬ A b) (hS : va_S A H0 H locs) {j : Int} (h0 : 0 ≤ j) (h1 : j < L) (hL : L ≤ 3072) (hdg : decode cc pc = .ok (.iaload, 1))
    (kk : W p l e R s m args below meth c H locs cells slots Q (F0 m (pc + 1) ls (.int (iI (xv xs j)) :: rest))) : W p l e R s m args below meth c H locs cells slots Q (F0 m pc ls (.int (iI j) :: .ref b :: rest)) :=
  va_sld hx hb hX hbl hbA hS (iI_in h0 h1 (by omega)) hdg (by
    rw [iI_cl h0 (by omega)]
    unfold xv at kk
    rw [iI_of] at kk
    exact kk)
theorem l_slen (hx : p.tables.exec = Jvm.exec) (hb : c.code = cc) {b L : Nat} {xs : Nat → Int32} (hX : va_X b L xs s H0) (hbl : b < H0.size) (hbA : ¬ A b) (hS : va_S A H0 H locs) (hdg : decode cc pc = .ok (.arraylength, 1))
    (kk : W p l e R s m args below meth c H locs cells slots Q (F0 m (pc + 1) ls (.int (iI (L : Int)) :: rest))) : W p l e R s m args below meth c H locs cells slots Q (F0 m pc ls (.ref b :: rest)) :=
  va_slen hx hb hX hbl hbA hS hdg (by
    rw [iI_nI] at kk
    exact kk)
end LRow
def PreX (X : XD) (b L : Nat) (xs : Nat → Int32) (sz : Nat) (U : State) : Prop := Pre0 X [] sz U ∧ va_X b L xs U U.heap ∧ b < sz
theorem preX_blind {X : XD} {av : List Value} {b L : Nat} {xs : Nat → Int32} {sz : Nat} : FrameBlind (va_Pc av (PreX X b L xs sz)) := fun a U g mk q => by
  obtain ⟨q0, ⟨q1, qP, qK, qD, qS⟩, q2, q3⟩ := q
  exact ⟨q0, ⟨q1, qP, va_K.moved (u := U) (U := U.calling g mk a) (Vm.Alike.refl U.vm) qK, qD, St.same (u := U) (U := U.calling g mk a) rfl qS⟩, va_X.moved (u := U) (U := U.calling g mk a) (Vm.Alike.refl U.vm) q2, q3⟩
abbrev rmL_cell : Room := { frames := 0, cells := 0, slots := 0, locals := 0 }
set_option maxHeartbeats 4000000 in
set_option maxRecDepth 100000 in
theorem kL_cell (l : Launch) (X : XD) {b L : Nat} {xs : Nat → Int32} (hL : L ≤ 3072) (k : Int) (hk : 0 ≤ k ∧ k ≤ 3000) : ∀ sz, Met l yL_cell wsL_cell rmL_cell (va_Pc [.ref b, .int (iI k)] (PreX X b L xs sz)) (va_Qi (fun r (_ : Unit) => ∃ z : Int, r = iI z ∧ inR z) (fun _ t => Post0 X (va_A [] sz) [] t) (va_A [] sz)) 0 0 (va_A [] sz) := fun sz =>
  Met.ofW (by decide +kernel) rfl (fun p e s m args below meth c s₁ B hml hv => by
    obtain ⟨hav, hv0, hX0, hbsz⟩ := hv
    obtain ⟨ls, rfl, hE0, hP, hD, hS, hl, he⟩ := ent_of (X := X) (av := [.ref b, .int (iI k)]) (w0 := []) (maxL := 2) rfl B hml ⟨hav, hv0⟩
    rw [he]
    obtain ⟨hx, hb, hr, hml, hlocks, hown, hts, hK, hE, hA, hnm⟩ := hE0
    have hl : lv_has ls 2 [(0, .ref b), (1, .int (iI k))] := hl
    have hbA : ¬ va_A [] s.heap.size b := fun z => by
      rcases z with ⟨k9, e9, h9⟩ | h9
      · cases h9
      · omega
    refine lv_iload_n hx hb dL_cell_0 rfl (lv_at hl 1 rfl) ?_
    refine lv_aload_n hx hb dL_cell_1 rfl (lv_at hl 0 rfl) ?_
    refine l_slen hx hb hX0 hbsz hbA hS dL_cell_2 ?_
    refine i_cmp_ge (tgt := 12) hx hb (inR_of (by omega)) (inR_of (by omega)) dL_cell_3 (by decide) (fun c9 => ?_) (fun c9 => ?_)
    · refine lv_ldc (v := iI 40503) hx hb hown (hts (.constant RL 7 (40503)) (by decide +kernel)) dL_cell_12 ?_
      refine lv_iload_n hx hb dL_cell_14 rfl (lv_at hl 1 rfl) ?_
      refine lv_iconst (v := iI 3) hx hb dL_cell_15 rfl ?_
      refine i_add hx hb dL_cell_16 ?_
      refine i_mul hx hb dL_cell_17 ?_
      obtain ⟨z, hz, ez⟩ := iI_ex (iI (40503 * (k + 3)))
      rw [ez]
      exact r_i (X := X) (w1 := fun _ : Unit => []) (post := fun z _ => inR z) () hx hb hr hlocks hK hP hD hS hz (Nat.le_refl 0) (Nat.le_refl 0) dL_cell_18
    · refine lv_aload_n hx hb dL_cell_6 rfl (lv_at hl 0 rfl) ?_
      refine lv_iload_n hx hb dL_cell_7 rfl (lv_at hl 1 rfl) ?_
      refine l_sld hx hb hX0 hbsz hbA hS (j := k) hk.1 (by omega) hL dL_cell_8 ?_
      refine lv_goto (tgt := 18) hx hb dL_cell_9 (by decide) ?_
      exact r_i (X := X) (w1 := fun _ : Unit => []) (post := fun z _ => inR z) () hx hb hr hlocks hK hP hD hS xv_in (Nat.le_refl 0) (Nat.le_refl 0) dL_cell_18)
section Cal27
variable {p : Program} {l : Launch} {e : Env} {R : Room} {s : State} {m : MethodId} {args : Array Value} {below : List Frame} {meth : Method} {c : Code} {H : Heap} {locs : List Loc} {cells slots : Nat} {Q : State → Prop}
variable {pc : Nat} {ls : Array Slot} {rest st0 : List Value} {a : Array Value} {A : Nat → Prop} {X : XD} {mc ms : Nat} {xs pl cx wr ws : va_W} {isC isR : List Nat}
theorem pre_cell {av : List Value} {b L : Nat} {scr : Nat → Int32} (hE : St A s s.heap) (hK : va_K X.1 vwCl (tyL X) s) (hA : ∀ q, s.heap.size ≤ q → A q) (hP : va_P X.1 vwCl (xs ++ pl) H) (hD : va_D A (xs ++ pl)) (hS : va_S A s.heap H locs) (hX : va_X b L scr s s.heap) (hbl : b < s.heap.size) (hbA : ¬ A b) : ∀ U : State, U.heap = H → s.WarmedH U.vm → va_Pc av (PreX X b L scr H.size) av.toArray U := fun U hU hW => by
  have h1 := pre_cutQ (av := av) (wc := []) (isC := []) hE hK hA hP hD hS rfl rfl U hU hW
  refine ⟨h1.1, h1.2, ?_, Nat.lt_of_lt_of_le hbl hS.1⟩
  rw [hU]
  exact (hX.kept (hS.2.1 b hbl hbA)).moved hW.alike
theorem free_all (hD : va_D A ws) (hS : va_S A s.heap H locs) (hA : ∀ q, s.heap.size ≤ q → A q) : ∀ q, va_A ws H.size q → A q := fun q h => by
  rcases h with ⟨k, e, h⟩ | h
  · exact hD.2 k (q, e) h
  · exact hA q (Nat.le_trans hS.1 h)
/-- a call that has the whole world -/
theorem pre_all {av : List Value} (hE : St A s s.heap) (hK : va_K X.1 vwCl (tyL X) s) (hA : ∀ q, s.heap.size ≤ q → A q) (hP : va_P X.1 vwCl ws H) (hD : va_D A ws) (hS : va_S A s.heap H locs) : ∀ U : State, U.heap = H → s.WarmedH U.vm → va_Pc av (Pre0 X ws H.size) av.toArray U := by
  intro U hU hW
  refine ⟨rfl, by rw [hU], by rw [hU]; exact hP, va_K.moved hW.alike hK, hD.weaken (fun _ _ _ _ => trivial), ?_⟩
  rw [hU]
  exact ((hE.kept (fun q h1 h2 => hS.2.1 q h1 h2)).narrow (free_all hD hS hA)).warm hW
theorem f_i {S : Type} {w1 : S → va_W} {post : Int → S → Prop} (hr : va_Run p l e R s m args below meth c H locs cells slots mc ms (F0 m pc ls st0) rest (va_Qi (fun r u => ∃ z : Int, r = iI z ∧ post z u) (fun u t => Post0 X (va_A ws H.size) (w1 u) t) (va_A ws H.size) a) (va_A ws H.size))
    (hA : ∀ q, s.heap.size ≤ q → A q) (hD : va_D A ws) (hS : va_S A s.heap H locs)
    (kk : ∀ (z : Int) (u : S) (H1 : Heap) (locs1 : List Loc), post z u → va_P X.1 vwCl (w1 u) H1 → va_D A (w1 u) → va_S A s.heap H1 locs1 → W p l e R s m args below meth c H1 locs1 (cells + mc) (slots + ms) Q (F0 m (pc + 3) ls (.int (iI z) :: rest))) : W p l e R s m args below meth c H locs cells slots Q (F0 m pc ls st0) := by
  have hF := free_all hD hS hA
  refine va_calli hr hS (fun q _ h => hF q h) hF (fun r u t H1 locs1 ht hvm hw hB hz1 hk1 hS1 => ?_)
  obtain ⟨z, rfl, hz⟩ := hw
  obtain ⟨hP1, hK1, hD1⟩ := hB
  rw [ht] at hP1
  exact kk z u H1 locs1 hz hP1 ⟨hD1.1, fun k q hk => hF q.1 (hD1.2 k q hk)⟩ hS1
/-- a call that has some of the rows and the object -/
theorem pre_some {av : List Value} (hE : St A s s.heap) (hK : va_K X.1 vwCl (tyL X) s) (hA : ∀ q, s.heap.size ≤ q → A q) (hP : va_P X.1 vwCl (xs ++ pl) H) (hD : va_D A (xs ++ pl)) (hS : va_S A s.heap H locs) (hC : isC.map (fun i => xs[i]?) = cx.map some) (hn : va_nd isC = true) : ∀ U : State, U.heap = H → s.WarmedH U.vm → va_Pc av (Pre0 X (cx ++ pl) H.size) av.toArray U := by
  intro U hU hW
  refine ⟨rfl, by rw [hU], by rw [hU]; exact hP.part isC hC, va_K.moved hW.alike hK, (hD.part isC hn hC).weaken (fun _ _ _ _ => trivial), ?_⟩
  rw [hU]
  exact ((hE.kept (fun q h1 h2 => hS.2.1 q h1 h2)).narrow (va_freeP hD hS hA isC hC)).warm hW
theorem s_i {S : Type} {rx pl1 : S → va_W} {post : Int → S → Prop} (hr : va_Run p l e R s m args below meth c H locs cells slots mc ms (F0 m pc ls st0) rest (va_Qi (fun r u => ∃ z : Int, r = iI z ∧ post z u) (fun u t => Post0 X (va_A (cx ++ pl) H.size) (rx u ++ pl1 u) t) (va_A (cx ++ pl) H.size) a) (va_A (cx ++ pl) H.size))
    (hA : ∀ q, s.heap.size ≤ q → A q) (hP : va_P X.1 vwCl (xs ++ pl) H) (hD : va_D A (xs ++ pl)) (hS : va_S A s.heap H locs) (hC : isC.map (fun i => xs[i]?) = cx.map some) (hR : isR.map (fun i => xs[i]?) = wr.map some) (hn : va_nd isR = true) (hdis : ∀ i ∈ isR, i ∉ isC)
    (kk : ∀ (z : Int) (u : S) (H1 : Heap) (locs1 : List Loc), post z u → va_P X.1 vwCl ((wr ++ rx u) ++ pl1 u) H1 → va_D A ((wr ++ rx u) ++ pl1 u) → va_S A s.heap H1 locs1 → W p l e R s m args below meth c H1 locs1 (cells + mc) (slots + ms) Q (F0 m (pc + 3) ls (.int (iI z) :: rest))) : W p l e R s m args below meth c H locs cells slots Q (F0 m pc ls st0) := by
  have hF := va_freeP hD hS hA isC hC
  refine va_calli hr hS (fun q _ h => hF q h) hF (fun r u t H1 locs1 ht hvm hw hB hz1 hk1 hS1 => ?_)
  obtain ⟨z, rfl, hz⟩ := hw
  obtain ⟨hP1, hK1, hD1⟩ := hB
  rw [ht] at hP1
  obtain ⟨hP2, hD2⟩ := va_joinP hP hD isC isR hC hR hn hdis hk1 hF hP1 hD1
  exact kk z u H1 locs1 hz hP2 hD2 hS1
end Cal27
theorem P_swap {D : va_G} {cl : List vw_C} {X pl : va_W} {H : Heap} (h : va_P D cl (pl ++ X) H) : va_P D cl (X ++ pl) H := fun k q hk => by
  by_cases c : k < X.length
  · rw [List.getElem?_append_left c] at hk
    exact h (pl.length + k) q (by rw [List.getElem?_append_right (Nat.le_add_right _ _), Nat.add_sub_cancel_left]; exact hk)
  · rw [List.getElem?_append_right (by omega)] at hk
    have hlt := (List.getElem?_eq_some_iff.mp hk).1
    exact h (k - X.length) q (by rw [List.getElem?_append_left hlt]; exact hk)
theorem D_swap {A : Nat → Prop} {X pl : va_W} (h : va_D A (pl ++ X)) : va_D A (X ++ pl) := by
  have at' : ∀ (k : Nat) (q : Nat × va_E), (X ++ pl)[k]? = some q → (pl ++ X)[if k < X.length then pl.length + k else k - X.length]? = some q ∧ k < X.length + pl.length := fun k q hk => by
    by_cases c : k < X.length
    · rw [List.getElem?_append_left c] at hk
      rw [if_pos c, List.getElem?_append_right (Nat.le_add_right _ _), Nat.add_sub_cancel_left]
      exact ⟨hk, by omega⟩
    · rw [List.getElem?_append_right (by omega)] at hk
      have hlt := (List.getElem?_eq_some_iff.mp hk).1
      rw [if_neg c, List.getElem?_append_left hlt]
      exact ⟨hk, by omega⟩
  refine ⟨fun i j a b hi hj e => ?_, fun k q hk => h.2 _ q (at' k q hk).1⟩
  obtain ⟨h1, l1⟩ := at' i a hi
  obtain ⟨h2, l2⟩ := at' j b hj
  have h3 := h.1 _ _ a b h1 h2 e
  by_cases c1 : i < X.length
  · rw [if_pos c1] at h3
    by_cases c2 : j < X.length
    · rw [if_pos c2] at h3; omega
    · rw [if_neg c2] at h3; omega
  · rw [if_neg c1] at h3
    by_cases c2 : j < X.length
    · rw [if_pos c2] at h3; omega
    · rw [if_neg c2] at h3; omega
def LEnv (p : Program) (s : State) (m : MethodId) (c : Code) (A : Nat → Prop) (b L : Nat) (xs : Nat → Int32) (X : XD) : Prop :=
  p.tables.exec = Jvm.exec ∧ c.code = cL_law ∧ c.maxLocals = 9 ∧ s.vm.findClass RL = some m.cls ∧ (∀ w ∈ wsL_law, w.before #[Value.ref b] s = true) ∧ va_K X.1 vwCl (tyL X) s ∧ St A s s.heap ∧ (∀ q, s.heap.size ≤ q → A q) ∧ (∀ q, A q → s.heap.size ≤ q) ∧ va_X b L xs s s.heap ∧ b < s.heap.size
set_option maxHeartbeats 4000000 in
set_option maxRecDepth 100000 in
theorem l_tail {p : Program} {l : Launch} {e0 : Env} {s : State} {m : MethodId} {below : List Frame} {meth : Method} {c : Code} {A : Nat → Prop} {b L : Nat} {xs : Nat → Int32} {X : XD} {ad : Nat → Nat} {q2 q3 q4 q5 : Nat} {Q : State → Prop} (hst : l.stackTraces = false) (E : LEnv p s m c A b L xs X) (hend : ∀ (H : Heap) (ls : Array Slot), va_S A s.heap H [] → W p l e0 room_1 s m #[Value.ref b] below meth c H [] 600086 7301442 Q (F0 m 209 ls [.int (iI 1)])) {cells slots : Nat} (hc : cells ≤ 500000) (hs : slots ≤ 7000000) {sg : OS} {g e x y : Nat → Int} {H : Heap} {locs : List Loc} {ls : Array Slot} (hP : va_P X.1 vwCl ([(q2, eI X 15 g), (q3, eI X 50 e), (q4, eI X 60 x), (q5, eI X 22 y)] ++ wo X ad sg) H) (hD : va_D A ([(q2, eI X 15 g), (q3, eI X 50 e), (q4, eI X 60 x), (q5, eI X 22 y)] ++ wo X ad sg)) (hS : va_S A s.heap H locs) (hl : lv_has ls 9 [(0, .ref b), (1, .ref (ad 0)), (2, .ref q2), (3, .ref q3), (4, .ref q4), (5, .ref q5), (6, .int (iI 1))]) :
    W p l e0 room_1 s m #[Value.ref b] below meth c H locs cells slots Q (F0 m 177 ls []) := by
  obtain ⟨hx, hb, hml, hown, hts, hK, hE, hA, hAf, hX, hbl⟩ := E
  have hbA : ¬ A b := fun z => absurd (hAf b z) (by omega)
  refine lv_iload hx hb dL_law_177 (lv_at hl 6 rfl) ?_
  refine i_if_eq (tgt := 208) hx hb (inR_lit rfl) dL_law_179 (by decide) (fun c9 => absurd c9 (by decide)) (fun _ => ?_)
  refine lv_aload_n hx hb dL_law_182 rfl (lv_at hl 1 rfl) ?_
  refine lv_bipush (v := iI 14) hx hb dL_law_183 (by decide +kernel) ?_
  refine t_i (xs := [(q2, eI X 15 g), (q3, eI X 50 e), (q4, eI X 60 x), (q5, eI X 22 y)]) (isR := [0, 1, 2, 3]) (vx_runSW (As := [.ref (ad 0), .int (iI 14)]) (rest := []) ⟨hx, hb, hml, hown, hts⟩ (kL_wholeOf l hst X ad sg 14 (fun z => z = -100002) (r_whole14 rfl) _) (vx_cwSW 2 hts gL_law_L_wholeOf rfl rfl rfl (by decide +kernel) ⟨(Nat.le_of_ble_eq_true rfl), (Nat.le_of_ble_eq_true rfl)⟩) ⟨pre_blind, pre_cutP hE hK hA hP hD hS⟩ rfl rfl hl.1 rfl (lv_room (Nat.le_of_ble_eq_true rfl)) dL_law_185 ⟨by show _ ≤ 600086; omega, by show _ ≤ 7301442; omega⟩) hA hP hD hS rfl (by decide +kernel) (fun z1 u1 H locs h1 hP hD hS => ?_)
  have h1 : z1 = -100002 := h1
  subst h1
  refine lv_ldc (v := iI (-100002)) hx hb hown (hts (.constant RL 67 (-100002)) (by decide +kernel)) dL_law_188 ?_
  refine i_cmp_ne (tgt := 208) hx hb (inR_lit rfl) (inR_lit rfl) dL_law_190 (by decide) (fun c9 => absurd rfl c9) (fun _ => ?_)
  refine lv_aload_n hx hb dL_law_193 rfl (lv_at hl 1 rfl) ?_
  refine lv_bipush (v := iI 8) hx hb dL_law_194 (by decide +kernel) ?_
  refine t_i (xs := [(q2, eI X 15 g), (q3, eI X 50 e), (q4, eI X 60 x), (q5, eI X 22 y)]) (isR := [0, 1, 2, 3]) (vx_runSW (As := [.ref (ad 0), .int (iI 8)]) (rest := []) ⟨hx, hb, hml, hown, hts⟩ (kL_shareOf l hst X ad sg 8 (fun z => z = -100001) (r_share8 rfl) _) (vx_cwSW 2 hts gL_law_L_shareOf rfl rfl rfl (by decide +kernel) ⟨(Nat.le_of_ble_eq_true rfl), (Nat.le_of_ble_eq_true rfl)⟩) ⟨pre_blind, pre_cutP hE hK hA hP hD hS⟩ rfl rfl hl.1 rfl (lv_room (Nat.le_of_ble_eq_true rfl)) dL_law_196 ⟨by show _ ≤ 600086; omega, by show _ ≤ 7301442; omega⟩) hA hP hD hS rfl (by decide +kernel) (fun z2 u2 H locs h2 hP hD hS => ?_)
  have h2 : z2 = -100001 := h2
  subst h2
  refine lv_ldc (v := iI (-100001)) hx hb hown (hts (.constant RL 54 (-100001)) (by decide +kernel)) dL_law_199 ?_
  refine i_cmp_ne (tgt := 208) hx hb (inR_lit rfl) (inR_lit rfl) dL_law_201 (by decide) (fun c9 => absurd rfl c9) (fun _ => ?_)
  refine lv_iconst (v := iI 1) hx hb dL_law_204 rfl ?_
  refine lv_goto (tgt := 209) hx hb dL_law_205 (by decide) ?_
  exact va_forget (fun q hq => hAf _ (hS.2.2 q hq)) (W.widen (k := 600086) (n := 7301442) (by omega) (by omega) (hend H ls ⟨hS.1, hS.2.1, fun _ h => nomatch h⟩))
set_option maxHeartbeats 4000000 in
set_option maxRecDepth 100000 in
theorem l_loop2 {p : Program} {l : Launch} {e0 : Env} {s : State} {m : MethodId} {below : List Frame} {meth : Method} {c : Code} {A : Nat → Prop} {b L : Nat} {xs : Nat → Int32} {X : XD} {ad : Nat → Nat} {q2 q3 q4 q5 : Nat} {Q : State → Prop} (hst : l.stackTraces = false) (hL : L ≤ 3072) (E : LEnv p s m c A b L xs X) (hend : ∀ (H : Heap) (ls : Array Slot), va_S A s.heap H [] → W p l e0 room_1 s m #[Value.ref b] below meth c H [] 600086 7301442 Q (F0 m 209 ls [.int (iI 1)])) {tn : Int} (htn : 0 ≤ tn ∧ tn ≤ 100) :
    ∀ (f k : Nat), (k : Int) + f = tn → ∀ (sg : OS) (g e x y : Nat → Int) (H : Heap) (ls : Array Slot), J26 sg g e → va_P X.1 vwCl ([(q2, eI X 15 g), (q3, eI X 50 e), (q4, eI X 60 x), (q5, eI X 22 y)] ++ wo X ad sg) H → va_D A ([(q2, eI X 15 g), (q3, eI X 50 e), (q4, eI X 60 x), (q5, eI X 22 y)] ++ wo X ad sg) → va_S A s.heap H [] → lv_has ls 9 [(0, .ref b), (1, .ref (ad 0)), (2, .ref q2), (3, .ref q3), (4, .ref q4), (5, .ref q5), (6, .int (iI 1)), (7, .int (iI tn)), (8, .int (iI (k : Int)))] → W p l e0 room_1 s m #[Value.ref b] below meth c H [] (1000 + 20 * k) (50000 + 200 * k) Q (F0 m 114 ls []) := by
  obtain ⟨hx, hb, hml, hown, hts, hK, hE, hA, hAf, hX, hbl⟩ := id E
  have hbA : ¬ A b := fun z => absurd (hAf b z) (by omega)
  intro f
  induction f with
  | zero =>
    intro k hk sg g e x y H ls J hP hD hS hl
    refine lv_iload hx hb dL_law_114 (lv_at hl 8 rfl) ?_
    refine lv_iload hx hb dL_law_116 (lv_at hl 7 rfl) ?_
    refine i_cmp_ge (tgt := 177) hx hb (inR_of (by omega)) (inR_of (by omega)) dL_law_118 (by decide) (fun c9 => ?_) (fun c9 => ?_)
    · exact l_tail hst E hend (by omega) (by omega) hP hD hS (lv_sub hl [0, 1, 2, 3, 4, 5, 6] rfl)
    · exact absurd c9 (by omega)
  | succ f ih =>
    intro k hk sg g e x y H ls J hP hD hS hl
    refine lv_iload hx hb dL_law_114 (lv_at hl 8 rfl) ?_
    refine lv_iload hx hb dL_law_116 (lv_at hl 7 rfl) ?_
    refine i_cmp_ge (tgt := 177) hx hb (inR_of (by omega)) (inR_of (by omega)) dL_law_118 (by decide) (fun c9 => ?_) (fun c9 => ?_)
    · exact absurd c9 (by omega)
    · refine lv_iload hx hb dL_law_121 (lv_at hl 6 rfl) ?_
      refine i_if_eq (tgt := 177) hx hb (inR_lit rfl) dL_law_123 (by decide) (fun c9 => absurd c9 (by decide)) (fun _ => ?_)
      refine lv_aload_n hx hb dL_law_126 rfl (lv_at hl 1 rfl) ?_
      refine lv_aload_n hx hb dL_law_127 rfl (lv_at hl 2 rfl) ?_
      refine lv_aload_n hx hb dL_law_128 rfl (lv_at hl 3 rfl) ?_
      refine lv_aload_n hx hb dL_law_129 rfl (lv_at hl 0 rfl) ?_
      refine lv_bipush (v := iI 6) hx hb dL_law_130 (by decide +kernel) ?_
      refine lv_iload hx hb dL_law_132 (lv_at hl 8 rfl) ?_
      refine i_add hx hb dL_law_134 ?_
      refine u_i (xs := [(q2, eI X 15 g), (q3, eI X 50 e), (q4, eI X 60 x), (q5, eI X 22 y)]) (isC := []) (isR := [0, 1, 2, 3]) (wr := [(q2, eI X 15 g), (q3, eI X 50 e), (q4, eI X 60 x), (q5, eI X 22 y)]) (wc := []) (w1 := fun _ : Unit => []) (post := fun z _ => inR z) (va_runS (As := [.ref b, .int (iI (6 + (k : Int)))]) (rest := [.ref q3, .ref q2, .ref (ad 0)]) ⟨hx, hb, hml, hown, hts⟩ (kL_cell l X (b := b) (xs := xs) hL (6 + (k : Int)) ⟨by omega, by omega⟩ _) (va_cwS 2 hts gL_law_L_cell rfl rfl rfl (by decide +kernel) ⟨(Nat.le_of_ble_eq_true rfl), (Nat.le_of_ble_eq_true rfl)⟩) ⟨preX_blind, pre_cell hE hK hA hP hD hS hX hbl hbA⟩ rfl rfl hl.1 rfl (lv_room (Nat.le_of_ble_eq_true rfl)) dL_law_135 ⟨by show _ ≤ 600086; omega, by show _ ≤ 7301442; omega⟩) hA hP hD hS rfl rfl (by decide +kernel) (by decide +kernel) (fun zc uc H locs hzc hP hD hS => ?_)
      have hP : va_P X.1 vwCl ([(q2, eI X 15 g), (q3, eI X 50 e), (q4, eI X 60 x), (q5, eI X 22 y)] ++ wo X ad sg) H := hP
      have hD : va_D A ([(q2, eI X 15 g), (q3, eI X 50 e), (q4, eI X 60 x), (q5, eI X 22 y)] ++ wo X ad sg) := hD
      refine lv_sipush (v := iI 7919) hx hb dL_law_138 (by decide +kernel) ?_
      refine lv_iload hx hb dL_law_141 (lv_at hl 8 rfl) ?_
      refine i_mul hx hb dL_law_143 ?_
      refine i_xor hx hb dL_law_144 (fun qx hqx => ?_)
      refine s_i (xs := [(q2, eI X 15 g), (q3, eI X 50 e), (q4, eI X 60 x), (q5, eI X 22 y)]) (cx := [(q2, eI X 15 g), (q3, eI X 50 e)]) (isC := [0, 1]) (isR := [2, 3]) (wr := [(q4, eI X 60 x), (q5, eI X 22 y)]) (rx := fun u : (Nat → Int) × (Nat → Int) × OS => [(q2, eI X 15 u.1), (q3, eI X 50 u.2.1)]) (pl1 := fun u => wo X ad u.2.2) (post := fun z u => z = 1 ∧ J26 u.2.2 u.1 u.2.1) (va_runS (As := [.ref (ad 0), .ref q2, .ref q3, .int (iI qx)]) (rest := []) ⟨hx, hb, hml, hown, hts⟩ (kL_acts l hst X q2 q3 ad g e sg qx (fun z g' e' sg' => z = 1 ∧ J26 sg' g' e') (u_acts J qx (fun sg' g' e' J' => ⟨rfl, J'⟩)) _) (va_cwS 4 hts gL_law_L_acts rfl rfl rfl (by decide +kernel) ⟨(Nat.le_of_ble_eq_true rfl), (Nat.le_of_ble_eq_true rfl)⟩) ⟨pre_blind, pre_some hE hK hA hP hD hS (isC := [0, 1]) rfl rfl⟩ rfl rfl hl.1 rfl (lv_room (Nat.le_of_ble_eq_true rfl)) dL_law_145 ⟨by show _ ≤ 600086; omega, by show _ ≤ 7301442; omega⟩) hA hP hD hS rfl rfl (by decide +kernel) (by decide +kernel) (fun za ua H locs hza hP hD hS => ?_)
      obtain ⟨g, e, sg⟩ := ua
      obtain ⟨rfl, J⟩ := hza
      have J : J26 sg g e := J
      have hP : va_P X.1 vwCl ([(q2, eI X 15 g), (q3, eI X 50 e), (q4, eI X 60 x), (q5, eI X 22 y)] ++ wo X ad sg) H := va_P.subT (ws' := [(q2, eI X 15 g), (q3, eI X 50 e), (q4, eI X 60 x), (q5, eI X 22 y)]) [2, 3, 0, 1] rfl hP
      have hD : va_D A ([(q2, eI X 15 g), (q3, eI X 50 e), (q4, eI X 60 x), (q5, eI X 22 y)] ++ wo X ad sg) := va_D.subT (ws' := [(q2, eI X 15 g), (q3, eI X 50 e), (q4, eI X 60 x), (q5, eI X 22 y)]) [2, 3, 0, 1] (by decide +kernel) rfl hD
      refine i_if_eq (tgt := 168) hx hb (inR_lit rfl) dL_law_148 (by decide) (fun c9 => absurd c9 (by decide)) (fun _ => ?_)
      refine lv_aload_n hx hb dL_law_151 rfl (lv_at hl 1 rfl) ?_
      refine lv_aload_n hx hb dL_law_152 rfl (lv_at hl 2 rfl) ?_
      refine lv_aload_n hx hb dL_law_153 rfl (lv_at hl 3 rfl) ?_
      refine lv_aload hx hb dL_law_154 (lv_at hl 4 rfl) ?_
      refine lv_aload hx hb dL_law_156 (lv_at hl 5 rfl) ?_
      refine f_i (w1 := fun u : (Nat → Int) × (Nat → Int) => ([(q2, eI X 15 g), (q3, eI X 50 e), (q4, eI X 60 u.1), (q5, eI X 22 u.2)] ++ wo X ad sg)) (post := fun z u => z = 1) (va_runS (As := [.ref (ad 0), .ref q2, .ref q3, .ref q4, .ref q5]) (rest := []) ⟨hx, hb, hml, hown, hts⟩ (kL_isSo l hst X q2 q3 q4 q5 ad g e x y sg (fun z _ _ => z = 1) (u_isSo J (fun _ _ => rfl)) _) (va_cwS 5 hts gL_law_L_isSo rfl rfl rfl (by decide +kernel) ⟨(Nat.le_of_ble_eq_true rfl), (Nat.le_of_ble_eq_true rfl)⟩) ⟨pre_blind, pre_all hE hK hA hP hD hS⟩ rfl rfl hl.1 rfl (lv_room (Nat.le_of_ble_eq_true rfl)) dL_law_158 ⟨by show _ ≤ 600086; omega, by show _ ≤ 7301442; omega⟩) hA hD hS (fun zs us H locs hzs hP hD hS => ?_)
      obtain ⟨x, y⟩ := us
      have hzs : zs = 1 := hzs
      subst hzs
      have hP : va_P X.1 vwCl ([(q2, eI X 15 g), (q3, eI X 50 e), (q4, eI X 60 x), (q5, eI X 22 y)] ++ wo X ad sg) H := hP
      have hD : va_D A ([(q2, eI X 15 g), (q3, eI X 50 e), (q4, eI X 60 x), (q5, eI X 22 y)] ++ wo X ad sg) := hD
      refine i_if_eq (tgt := 168) hx hb (inR_lit rfl) dL_law_161 (by decide) (fun c9 => absurd c9 (by decide)) (fun _ => ?_)
      refine lv_iconst (v := iI 1) hx hb dL_law_164 rfl ?_
      refine lv_goto (tgt := 169) hx hb dL_law_165 (by decide) ?_
      refine lv_istore (lv' := [(6, .int (iI 1)), (0, .ref b), (1, .ref (ad 0)), (2, .ref q2), (3, .ref q3), (4, .ref q4), (5, .ref q5), (7, .int (iI tn)), (8, .int (iI (k : Int)))]) hx hb dL_law_169 hl (by decide) rfl (fun ls hl => ?_)
      have hl : lv_has ls 9 [(0, .ref b), (1, .ref (ad 0)), (2, .ref q2), (3, .ref q3), (4, .ref q4), (5, .ref q5), (6, .int (iI 1)), (7, .int (iI tn)), (8, .int (iI (k : Int)))] := lv_sub hl [1, 2, 3, 4, 5, 6, 0, 7, 8] rfl
      refine lv_iinc (v := iI ((k : Int) + 1)) (lv' := [(8, .int (iI ((k : Int) + 1))), (0, .ref b), (1, .ref (ad 0)), (2, .ref q2), (3, .ref q3), (4, .ref q4), (5, .ref q5), (6, .int (iI 1)), (7, .int (iI tn))]) hx hb dL_law_171 hl (k := 8) rfl (iI_add _ _) (by decide) rfl (fun ls hl => ?_)
      refine lv_goto (tgt := 114) hx hb dL_law_174 (by decide) ?_
      refine va_forget (fun q hq => hAf _ (hS.2.2 q hq)) (W.widen (k := 1000 + 20 * (k + 1)) (n := 50000 + 200 * (k + 1)) (by omega) (by omega) ?_)
      refine ih (k + 1) (by omega) sg g e x y H ls J hP hD ⟨hS.1, hS.2.1, fun _ h => nomatch h⟩ ?_
      rw [show ((k + 1 : Nat) : Int) = (k : Int) + 1 by omega]
      exact lv_sub hl [1, 2, 3, 4, 5, 6, 7, 8, 0] rfl
set_option maxHeartbeats 4000000 in
set_option maxRecDepth 100000 in
theorem l_mid {p : Program} {l : Launch} {e0 : Env} {s : State} {m : MethodId} {below : List Frame} {meth : Method} {c : Code} {A : Nat → Prop} {b L : Nat} {xs : Nat → Int32} {X : XD} {ad : Nat → Nat} {q2 q3 q4 q5 : Nat} {Q : State → Prop} (hst : l.stackTraces = false) (hL : L ≤ 3072) (E : LEnv p s m c A b L xs X) (hend : ∀ (H : Heap) (ls : Array Slot), va_S A s.heap H [] → W p l e0 room_1 s m #[Value.ref b] below meth c H [] 600086 7301442 Q (F0 m 209 ls [.int (iI 1)])) {sg : OS} {g e x y : Nat → Int} {H : Heap} {ls : Array Slot} (J : J26 sg g e) (hP : va_P X.1 vwCl ([(q2, eI X 15 g), (q3, eI X 50 e), (q4, eI X 60 x), (q5, eI X 22 y)] ++ wo X ad sg) H) (hD : va_D A ([(q2, eI X 15 g), (q3, eI X 50 e), (q4, eI X 60 x), (q5, eI X 22 y)] ++ wo X ad sg)) (hS : va_S A s.heap H []) (hl : lv_has ls 9 [(0, .ref b), (1, .ref (ad 0)), (2, .ref q2), (3, .ref q3), (4, .ref q4), (5, .ref q5), (6, .int (iI 1))]) : W p l e0 room_1 s m #[Value.ref b] below meth c H [] 800 40000 Q (F0 m 96 ls []) := by
  obtain ⟨hx, hb, hml, hown, hts, hK, hE, hA, hAf, hX, hbl⟩ := id E
  have hbA : ¬ A b := fun z => absurd (hAf b z) (by omega)
  refine lv_bipush (v := iI 8) hx hb dL_law_96 (by decide +kernel) ?_
  refine lv_aload_n hx hb dL_law_98 rfl (lv_at hl 0 rfl) ?_
  refine lv_iconst (v := iI 0) hx hb dL_law_99 rfl ?_
  refine u_i (xs := [(q2, eI X 15 g), (q3, eI X 50 e), (q4, eI X 60 x), (q5, eI X 22 y)]) (isC := []) (isR := [0, 1, 2, 3]) (wr := [(q2, eI X 15 g), (q3, eI X 50 e), (q4, eI X 60 x), (q5, eI X 22 y)]) (wc := []) (w1 := fun _ : Unit => []) (post := fun z _ => inR z) (va_runS (As := [.ref b, .int (iI 0)]) (rest := [.int (iI 8)]) ⟨hx, hb, hml, hown, hts⟩ (kL_cell l X (b := b) (xs := xs) hL 0 ⟨by decide, by decide⟩ _) (va_cwS 2 hts gL_law_L_cell rfl rfl rfl (by decide +kernel) ⟨(Nat.le_of_ble_eq_true rfl), (Nat.le_of_ble_eq_true rfl)⟩) ⟨preX_blind, pre_cell hE hK hA hP hD hS hX hbl hbA⟩ rfl rfl hl.1 rfl (lv_room (Nat.le_of_ble_eq_true rfl)) dL_law_100 ⟨by show _ ≤ 600086; omega, by show _ ≤ 7301442; omega⟩) hA hP hD hS rfl rfl (by decide +kernel) (by decide +kernel) (fun zc uc H locs hzc hP hD hS => ?_)
  have hP : va_P X.1 vwCl ([(q2, eI X 15 g), (q3, eI X 50 e), (q4, eI X 60 x), (q5, eI X 22 y)] ++ wo X ad sg) H := hP
  have hD : va_D A ([(q2, eI X 15 g), (q3, eI X 50 e), (q4, eI X 60 x), (q5, eI X 22 y)] ++ wo X ad sg) := hD
  refine lv_bipush (v := iI 55) hx hb dL_law_103 (by decide +kernel) ?_
  refine u_i (xs := [(q2, eI X 15 g), (q3, eI X 50 e), (q4, eI X 60 x), (q5, eI X 22 y)]) (isC := []) (isR := [0, 1, 2, 3]) (wr := [(q2, eI X 15 g), (q3, eI X 50 e), (q4, eI X 60 x), (q5, eI X 22 y)]) (va_runS (As := [.int (iI zc), .int (iI 55)]) (rest := [.int (iI 8)]) ⟨hx, hb, hml, hown, hts⟩ (kL_low l X zc 55 (fun z => 0 ≤ z ∧ z < 55) (u_low (by decide) (by decide) (fun k h0 h1 => ⟨h0, h1⟩)) _) (va_cwS 2 hts gL_law_L_low rfl rfl rfl (by decide +kernel) ⟨(Nat.le_of_ble_eq_true rfl), (Nat.le_of_ble_eq_true rfl)⟩) ⟨pre_blind, pre_cutQ hE hK hA hP hD hS (isC := []) rfl rfl⟩ rfl rfl hl.1 rfl (lv_room (Nat.le_of_ble_eq_true rfl)) dL_law_105 ⟨by show _ ≤ 600086; omega, by show _ ≤ 7301442; omega⟩) hA hP hD hS rfl rfl (by decide +kernel) (by decide +kernel) (fun zl ul H locs hzl hP hD hS => ?_)
  have hP : va_P X.1 vwCl ([(q2, eI X 15 g), (q3, eI X 50 e), (q4, eI X 60 x), (q5, eI X 22 y)] ++ wo X ad sg) H := hP
  have hD : va_D A ([(q2, eI X 15 g), (q3, eI X 50 e), (q4, eI X 60 x), (q5, eI X 22 y)] ++ wo X ad sg) := hD
  have hzl : 0 ≤ zl ∧ zl < 55 := hzl
  refine i_add hx hb dL_law_108 ?_
  refine lv_istore (lv' := [(7, .int (iI (8 + zl))), (0, .ref b), (1, .ref (ad 0)), (2, .ref q2), (3, .ref q3), (4, .ref q4), (5, .ref q5), (6, .int (iI 1))]) hx hb dL_law_109 hl (by decide) rfl (fun ls hl => ?_)
  refine lv_iconst (v := iI 0) hx hb dL_law_111 rfl ?_
  refine lv_istore (lv' := [(8, .int (iI 0)), (7, .int (iI (8 + zl))), (0, .ref b), (1, .ref (ad 0)), (2, .ref q2), (3, .ref q3), (4, .ref q4), (5, .ref q5), (6, .int (iI 1))]) hx hb dL_law_112 hl (by decide) rfl (fun ls hl => ?_)
  refine va_forget (fun q hq => hAf _ (hS.2.2 q hq)) (W.widen (k := 1000 + 20 * 0) (n := 50000 + 200 * 0) (by omega) (by omega) ?_)
  exact l_loop2 hst hL E hend (tn := 8 + zl) ⟨by omega, by omega⟩ (8 + zl).toNat 0 (by omega) sg g e x y H ls J hP hD ⟨hS.1, hS.2.1, fun _ h => nomatch h⟩ (lv_sub hl [2, 3, 4, 5, 6, 7, 8, 1, 0] rfl)
set_option maxHeartbeats 4000000 in
set_option maxRecDepth 100000 in
theorem l_loop1 {p : Program} {l : Launch} {e0 : Env} {s : State} {m : MethodId} {below : List Frame} {meth : Method} {c : Code} {A : Nat → Prop} {b L : Nat} {xs : Nat → Int32} {X : XD} {ad : Nat → Nat} {q2 q3 q4 q5 : Nat} {Q : State → Prop} (hst : l.stackTraces = false) (hL : L ≤ 3072) (E : LEnv p s m c A b L xs X) (hend : ∀ (H : Heap) (ls : Array Slot), va_S A s.heap H [] → W p l e0 room_1 s m #[Value.ref b] below meth c H [] 600086 7301442 Q (F0 m 209 ls [.int (iI 1)])) :
    ∀ (f k : Nat), k + f = 5 → ∀ (sg : OS) (g e x y : Nat → Int) (H : Heap) (ls : Array Slot), J26 sg g e → va_P X.1 vwCl ([(q2, eI X 15 g), (q3, eI X 50 e), (q4, eI X 60 x), (q5, eI X 22 y)] ++ wo X ad sg) H → va_D A ([(q2, eI X 15 g), (q3, eI X 50 e), (q4, eI X 60 x), (q5, eI X 22 y)] ++ wo X ad sg) → va_S A s.heap H [] → lv_has ls 9 [(0, .ref b), (1, .ref (ad 0)), (2, .ref q2), (3, .ref q3), (4, .ref q4), (5, .ref q5), (6, .int (iI 1)), (7, .int (iI (k : Int)))] → W p l e0 room_1 s m #[Value.ref b] below meth c H [] (200 + 20 * k) (20000 + 200 * k) Q (F0 m 49 ls []) := by
  obtain ⟨hx, hb, hml, hown, hts, hK, hE, hA, hAf, hX, hbl⟩ := id E
  have hbA : ¬ A b := fun z => absurd (hAf b z) (by omega)
  intro f
  induction f with
  | zero =>
    intro k hk sg g e x y H ls J hP hD hS hl
    refine lv_iload hx hb dL_law_49 (lv_at hl 7 rfl) ?_
    refine lv_iconst (v := iI 5) hx hb dL_law_51 rfl ?_
    refine i_cmp_ge (tgt := 96) hx hb (inR_of (by omega)) (inR_lit rfl) dL_law_52 (by decide) (fun c9 => ?_) (fun c9 => ?_)
    · exact W.widen (k := 800) (n := 40000) (by omega) (by omega) (l_mid hst hL E hend J hP hD hS (lv_sub hl [0, 1, 2, 3, 4, 5, 6] rfl))
    · exact absurd c9 (by omega)
  | succ f ih =>
    intro k hk sg g e x y H ls J hP hD hS hl
    refine lv_iload hx hb dL_law_49 (lv_at hl 7 rfl) ?_
    refine lv_iconst (v := iI 5) hx hb dL_law_51 rfl ?_
    refine i_cmp_ge (tgt := 96) hx hb (inR_of (by omega)) (inR_lit rfl) dL_law_52 (by decide) (fun c9 => ?_) (fun c9 => ?_)
    · exact absurd c9 (by omega)
    · refine lv_iload hx hb dL_law_55 (lv_at hl 6 rfl) ?_
      refine i_if_eq (tgt := 96) hx hb (inR_lit rfl) dL_law_57 (by decide) (fun c9 => absurd c9 (by decide)) (fun _ => ?_)
      refine lv_aload_n hx hb dL_law_60 rfl (lv_at hl 1 rfl) ?_
      refine lv_aload_n hx hb dL_law_61 rfl (lv_at hl 2 rfl) ?_
      refine lv_aload_n hx hb dL_law_62 rfl (lv_at hl 3 rfl) ?_
      refine lv_aload_n hx hb dL_law_63 rfl (lv_at hl 0 rfl) ?_
      refine lv_iconst (v := iI 1) hx hb dL_law_64 rfl ?_
      refine lv_iload hx hb dL_law_65 (lv_at hl 7 rfl) ?_
      refine i_add hx hb dL_law_67 ?_
      refine u_i (xs := [(q2, eI X 15 g), (q3, eI X 50 e), (q4, eI X 60 x), (q5, eI X 22 y)]) (isC := []) (isR := [0, 1, 2, 3]) (wr := [(q2, eI X 15 g), (q3, eI X 50 e), (q4, eI X 60 x), (q5, eI X 22 y)]) (wc := []) (w1 := fun _ : Unit => []) (post := fun z _ => inR z) (va_runS (As := [.ref b, .int (iI (1 + (k : Int)))]) (rest := [.ref q3, .ref q2, .ref (ad 0)]) ⟨hx, hb, hml, hown, hts⟩ (kL_cell l X (b := b) (xs := xs) hL (1 + (k : Int)) ⟨by omega, by omega⟩ _) (va_cwS 2 hts gL_law_L_cell rfl rfl rfl (by decide +kernel) ⟨(Nat.le_of_ble_eq_true rfl), (Nat.le_of_ble_eq_true rfl)⟩) ⟨preX_blind, pre_cell hE hK hA hP hD hS hX hbl hbA⟩ rfl rfl hl.1 rfl (lv_room (Nat.le_of_ble_eq_true rfl)) dL_law_68 ⟨by show _ ≤ 600086; omega, by show _ ≤ 7301442; omega⟩) hA hP hD hS rfl rfl (by decide +kernel) (by decide +kernel) (fun zc uc H locs hzc hP hD hS => ?_)
      have hP : va_P X.1 vwCl ([(q2, eI X 15 g), (q3, eI X 50 e), (q4, eI X 60 x), (q5, eI X 22 y)] ++ wo X ad sg) H := hP
      have hD : va_D A ([(q2, eI X 15 g), (q3, eI X 50 e), (q4, eI X 60 x), (q5, eI X 22 y)] ++ wo X ad sg) := hD
      refine lv_ldc (v := iI 2147483647) hx hb hown (hts (.constant RL 8 (2147483647)) (by decide +kernel)) dL_law_71 ?_
      refine i_andp hx hb (Nat.le_of_ble_eq_true rfl) dL_law_73 (fun qx hqx => ?_)
      refine lv_sipush (v := iI 512) hx hb dL_law_74 (by decide +kernel) ?_
      refine i_div hx hb hqx.1 hqx.2 (by decide) (by decide) dL_law_77 ?_
      refine lv_sipush (v := iI 512) hx hb dL_law_78 (by decide +kernel) ?_
      refine i_mul hx hb dL_law_81 ?_
      refine lv_bipush (v := iI 9) hx hb dL_law_82 (by decide +kernel) ?_
      refine i_add hx hb dL_law_84 ?_
      refine s_i (xs := [(q2, eI X 15 g), (q3, eI X 50 e), (q4, eI X 60 x), (q5, eI X 22 y)]) (cx := [(q2, eI X 15 g), (q3, eI X 50 e)]) (isC := [0, 1]) (isR := [2, 3]) (wr := [(q4, eI X 60 x), (q5, eI X 22 y)]) (rx := fun u : (Nat → Int) × (Nat → Int) × OS => [(q2, eI X 15 u.1), (q3, eI X 50 u.2.1)]) (pl1 := fun u => wo X ad u.2.2) (post := fun z u => z = 1 ∧ J26 u.2.2 u.1 u.2.1) (va_runS (As := [.ref (ad 0), .ref q2, .ref q3, .int (iI (qx / 512 * 512 + 9))]) (rest := []) ⟨hx, hb, hml, hown, hts⟩ (kL_acts l hst X q2 q3 ad g e sg (qx / 512 * 512 + 9) (fun z g' e' sg' => z = 1 ∧ J26 sg' g' e') (u_acts J (qx / 512 * 512 + 9) (fun sg' g' e' J' => ⟨rfl, J'⟩)) _) (va_cwS 4 hts gL_law_L_acts rfl rfl rfl (by decide +kernel) ⟨(Nat.le_of_ble_eq_true rfl), (Nat.le_of_ble_eq_true rfl)⟩) ⟨pre_blind, pre_some hE hK hA hP hD hS (isC := [0, 1]) rfl rfl⟩ rfl rfl hl.1 rfl (lv_room (Nat.le_of_ble_eq_true rfl)) dL_law_85 ⟨by show _ ≤ 600086; omega, by show _ ≤ 7301442; omega⟩) hA hP hD hS rfl rfl (by decide +kernel) (by decide +kernel) (fun za ua H locs hza hP hD hS => ?_)
      obtain ⟨g, e, sg⟩ := ua
      obtain ⟨rfl, J⟩ := hza
      have J : J26 sg g e := J
      have hP : va_P X.1 vwCl ([(q2, eI X 15 g), (q3, eI X 50 e), (q4, eI X 60 x), (q5, eI X 22 y)] ++ wo X ad sg) H := va_P.subT (ws' := [(q2, eI X 15 g), (q3, eI X 50 e), (q4, eI X 60 x), (q5, eI X 22 y)]) [2, 3, 0, 1] rfl hP
      have hD : va_D A ([(q2, eI X 15 g), (q3, eI X 50 e), (q4, eI X 60 x), (q5, eI X 22 y)] ++ wo X ad sg) := va_D.subT (ws' := [(q2, eI X 15 g), (q3, eI X 50 e), (q4, eI X 60 x), (q5, eI X 22 y)]) [2, 3, 0, 1] (by decide +kernel) rfl hD
      refine lv_istore (lv' := [(6, .int (iI 1)), (0, .ref b), (1, .ref (ad 0)), (2, .ref q2), (3, .ref q3), (4, .ref q4), (5, .ref q5), (7, .int (iI (k : Int)))]) hx hb dL_law_88 hl (by decide) rfl (fun ls hl => ?_)
      have hl : lv_has ls 9 [(0, .ref b), (1, .ref (ad 0)), (2, .ref q2), (3, .ref q3), (4, .ref q4), (5, .ref q5), (6, .int (iI 1)), (7, .int (iI (k : Int)))] := lv_sub hl [1, 2, 3, 4, 5, 6, 0, 7] rfl
      refine lv_iinc (v := iI ((k : Int) + 1)) (lv' := [(7, .int (iI ((k : Int) + 1))), (0, .ref b), (1, .ref (ad 0)), (2, .ref q2), (3, .ref q3), (4, .ref q4), (5, .ref q5), (6, .int (iI 1))]) hx hb dL_law_90 hl (k := 7) rfl (iI_add _ _) (by decide) rfl (fun ls hl => ?_)
      refine lv_goto (tgt := 49) hx hb dL_law_93 (by decide) ?_
      refine va_forget (fun q hq => hAf _ (hS.2.2 q hq)) (W.widen (k := 200 + 20 * (k + 1)) (n := 20000 + 200 * (k + 1)) (by omega) (by omega) ?_)
      refine ih (k + 1) (by omega) sg g e x y H ls J hP hD ⟨hS.1, hS.2.1, fun _ h => nomatch h⟩ ?_
      rw [show ((k + 1 : Nat) : Int) = (k : Int) + 1 by omega]
      exact lv_sub hl [1, 2, 3, 4, 5, 6, 7, 0] rfl
set_option maxHeartbeats 4000000 in
set_option maxRecDepth 100000 in
theorem l_arrays {p : Program} {l : Launch} {e0 : Env} {s : State} {m : MethodId} {below : List Frame} {meth : Method} {c : Code} {A : Nat → Prop} {b L : Nat} {xs : Nat → Int32} {X : XD} {ad : Nat → Nat} {Q : State → Prop} (hst : l.stackTraces = false) (hL : L ≤ 3072) (E : LEnv p s m c A b L xs X) (hend : ∀ (H : Heap) (ls : Array Slot), va_S A s.heap H [] → W p l e0 room_1 s m #[Value.ref b] below meth c H [] 600086 7301442 Q (F0 m 209 ls [.int (iI 1)])) {sg : OS} (hJ : ∀ g e : Nat → Int, g 14 = 0 → (∀ i : Nat, i < 6 → g i = tb_FIRST_SETTING i) → (∀ i : Nat, i < 8 → g (6 + i) = tb_FIRST_SHARE i) → J26 sg g e) {H : Heap} {ls : Array Slot} (hP : va_P X.1 vwCl (wo X ad sg) H) (hD : va_D A (wo X ad sg)) (hS : va_S A s.heap H []) (hl : lv_has ls 9 [(0, .ref b), (1, .ref (ad 0))]) : W p l e0 room_1 s m #[Value.ref b] below meth c H [] 100 10000 Q (F0 m 8 ls []) := by
  obtain ⟨hx, hb, hml, hown, hts, hK, hE, hA, hAf, hX, hbl⟩ := id E
  have hbA : ¬ A b := fun z => absurd (hAf b z) (by omega)
  refine lv_bipush (v := iI 15) hx hb dL_law_8 (by decide +kernel) ?_
  refine nw_i hx hb (hts (.arrayClass .int) (by decide +kernel)) hK hP hD hS hA (N := 15) (by decide +kernel) (by decide +kernel) (Nat.le_of_ble_eq_true rfl) (Nat.le_of_ble_eq_true rfl) (Nat.le_of_ble_eq_true rfl) dL_law_10 (fun q2 H hP hD hS => ?_)
  refine lv_astore_n (lv' := [(2, .ref q2), (0, .ref b), (1, .ref (ad 0))]) hx hb dL_law_12 rfl hl (by decide) rfl (fun ls hl => ?_)
  have hl : lv_has ls 9 [(0, .ref b), (1, .ref (ad 0)), (2, .ref q2)] := lv_sub hl [1, 2, 0] rfl
  refine lv_bipush (v := iI 50) hx hb dL_law_13 (by decide +kernel) ?_
  refine nw_i hx hb (hts (.arrayClass .int) (by decide +kernel)) hK hP hD hS hA (N := 50) (by decide +kernel) (by decide +kernel) (Nat.le_of_ble_eq_true rfl) (Nat.le_of_ble_eq_true rfl) (Nat.le_of_ble_eq_true rfl) dL_law_15 (fun q3 H hP hD hS => ?_)
  refine lv_astore_n (lv' := [(3, .ref q3), (0, .ref b), (1, .ref (ad 0)), (2, .ref q2)]) hx hb dL_law_17 rfl hl (by decide) rfl (fun ls hl => ?_)
  have hl : lv_has ls 9 [(0, .ref b), (1, .ref (ad 0)), (2, .ref q2), (3, .ref q3)] := lv_sub hl [1, 2, 3, 0] rfl
  refine lv_bipush (v := iI 60) hx hb dL_law_18 (by decide +kernel) ?_
  refine nw_i hx hb (hts (.arrayClass .int) (by decide +kernel)) hK hP hD hS hA (N := 60) (by decide +kernel) (by decide +kernel) (Nat.le_of_ble_eq_true rfl) (Nat.le_of_ble_eq_true rfl) (Nat.le_of_ble_eq_true rfl) dL_law_20 (fun q4 H hP hD hS => ?_)
  refine lv_astore (lv' := [(4, .ref q4), (0, .ref b), (1, .ref (ad 0)), (2, .ref q2), (3, .ref q3)]) hx hb dL_law_22 hl (by decide) rfl (fun ls hl => ?_)
  have hl : lv_has ls 9 [(0, .ref b), (1, .ref (ad 0)), (2, .ref q2), (3, .ref q3), (4, .ref q4)] := lv_sub hl [1, 2, 3, 4, 0] rfl
  refine lv_bipush (v := iI 22) hx hb dL_law_24 (by decide +kernel) ?_
  refine nw_i hx hb (hts (.arrayClass .int) (by decide +kernel)) hK hP hD hS hA (N := 22) (by decide +kernel) (by decide +kernel) (Nat.le_of_ble_eq_true rfl) (Nat.le_of_ble_eq_true rfl) (Nat.le_of_ble_eq_true rfl) dL_law_26 (fun q5 H hP hD hS => ?_)
  refine lv_astore (lv' := [(5, .ref q5), (0, .ref b), (1, .ref (ad 0)), (2, .ref q2), (3, .ref q3), (4, .ref q4)]) hx hb dL_law_28 hl (by decide) rfl (fun ls hl => ?_)
  have hl : lv_has ls 9 [(0, .ref b), (1, .ref (ad 0)), (2, .ref q2), (3, .ref q3), (4, .ref q4), (5, .ref q5)] := lv_sub hl [1, 2, 3, 4, 5, 0] rfl
  rw [List.append_assoc, List.append_assoc, List.append_assoc] at hP hD
  have hP : va_P X.1 vwCl ([(q2, eI X 15 (fun _ => 0)), (q3, eI X 50 (fun _ => 0)), (q4, eI X 60 (fun _ => 0)), (q5, eI X 22 (fun _ => 0))] ++ wo X ad sg) H := P_swap hP
  have hD : va_D A ([(q2, eI X 15 (fun _ => 0)), (q3, eI X 50 (fun _ => 0)), (q4, eI X 60 (fun _ => 0)), (q5, eI X 22 (fun _ => 0))] ++ wo X ad sg) := D_swap hD
  refine lv_aload_n hx hb dL_law_30 rfl (lv_at hl 2 rfl) ?_
  refine u_v (xs := [(q2, eI X 15 (fun _ => 0)), (q3, eI X 50 (fun _ => 0)), (q4, eI X 60 (fun _ => 0)), (q5, eI X 22 (fun _ => 0))]) (isC := [0]) (isR := [1, 2, 3]) (wr := [(q3, eI X 50 (fun _ => 0)), (q4, eI X 60 (fun _ => 0)), (q5, eI X 22 (fun _ => 0))]) (va_runS (As := [.ref q2]) (rest := []) ⟨hx, hb, hml, hown, hts⟩ (kL_starts l X q2 (fun _ => 0) (fun g => g 14 = 0 ∧ (∀ i : Nat, i < 6 → g i = tb_FIRST_SETTING i) ∧ ∀ i : Nat, i < 8 → g (6 + i) = tb_FIRST_SHARE i) (u_starts rfl (fun g' z1 z2 z3 => ⟨z1, z2, z3⟩)) _) (va_cwS 1 hts gL_law_L_starts rfl rfl rfl (by decide +kernel) ⟨(Nat.le_of_ble_eq_true rfl), (Nat.le_of_ble_eq_true rfl)⟩) ⟨pre_blind, pre_cutQ hE hK hA hP hD hS (isC := [0]) rfl rfl⟩ rfl rfl hl.1 rfl (lv_room (Nat.le_of_ble_eq_true rfl)) dL_law_31 ⟨by show _ ≤ 600086; omega, by show _ ≤ 7301442; omega⟩) hA hP hD hS rfl rfl (by decide +kernel) (by decide +kernel) (fun g H locs hg hP hD hS => ?_)
  have hP : va_P X.1 vwCl ([(q2, eI X 15 g), (q3, eI X 50 (fun _ => 0)), (q4, eI X 60 (fun _ => 0)), (q5, eI X 22 (fun _ => 0))] ++ wo X ad sg) H := va_P.subT (ws' := [(q2, eI X 15 g), (q3, eI X 50 (fun _ => 0)), (q4, eI X 60 (fun _ => 0)), (q5, eI X 22 (fun _ => 0))]) [3, 0, 1, 2] rfl hP
  have hD : va_D A ([(q2, eI X 15 g), (q3, eI X 50 (fun _ => 0)), (q4, eI X 60 (fun _ => 0)), (q5, eI X 22 (fun _ => 0))] ++ wo X ad sg) := va_D.subT (ws' := [(q2, eI X 15 g), (q3, eI X 50 (fun _ => 0)), (q4, eI X 60 (fun _ => 0)), (q5, eI X 22 (fun _ => 0))]) [3, 0, 1, 2] (by decide +kernel) rfl hD
  have J : J26 sg g (fun _ => 0) := hJ g (fun _ => 0) hg.1 hg.2.1 hg.2.2
  refine lv_aload_n hx hb dL_law_34 rfl (lv_at hl 1 rfl) ?_
  refine lv_aload_n hx hb dL_law_35 rfl (lv_at hl 2 rfl) ?_
  refine lv_aload_n hx hb dL_law_36 rfl (lv_at hl 3 rfl) ?_
  refine lv_aload hx hb dL_law_37 (lv_at hl 4 rfl) ?_
  refine lv_aload hx hb dL_law_39 (lv_at hl 5 rfl) ?_
  refine f_i (w1 := fun u : (Nat → Int) × (Nat → Int) => ([(q2, eI X 15 g), (q3, eI X 50 (fun _ => 0)), (q4, eI X 60 u.1), (q5, eI X 22 u.2)] ++ wo X ad sg)) (post := fun z u => z = 1) (va_runS (As := [.ref (ad 0), .ref q2, .ref q3, .ref q4, .ref q5]) (rest := []) ⟨hx, hb, hml, hown, hts⟩ (kL_isSo l hst X q2 q3 q4 q5 ad g (fun _ => 0) (fun _ => 0) (fun _ => 0) sg (fun z _ _ => z = 1) (u_isSo J (fun _ _ => rfl)) _) (va_cwS 5 hts gL_law_L_isSo rfl rfl rfl (by decide +kernel) ⟨(Nat.le_of_ble_eq_true rfl), (Nat.le_of_ble_eq_true rfl)⟩) ⟨pre_blind, pre_all hE hK hA hP hD hS⟩ rfl rfl hl.1 rfl (lv_room (Nat.le_of_ble_eq_true rfl)) dL_law_41 ⟨by show _ ≤ 600086; omega, by show _ ≤ 7301442; omega⟩) hA hD hS (fun zs us H locs hzs hP hD hS => ?_)
  obtain ⟨x, y⟩ := us
  have hzs : zs = 1 := hzs
  subst hzs
  have hP : va_P X.1 vwCl ([(q2, eI X 15 g), (q3, eI X 50 (fun _ => 0)), (q4, eI X 60 x), (q5, eI X 22 y)] ++ wo X ad sg) H := hP
  have hD : va_D A ([(q2, eI X 15 g), (q3, eI X 50 (fun _ => 0)), (q4, eI X 60 x), (q5, eI X 22 y)] ++ wo X ad sg) := hD
  refine lv_istore (lv' := [(6, .int (iI 1)), (0, .ref b), (1, .ref (ad 0)), (2, .ref q2), (3, .ref q3), (4, .ref q4), (5, .ref q5)]) hx hb dL_law_44 hl (by decide) rfl (fun ls hl => ?_)
  refine lv_iconst (v := iI 0) hx hb dL_law_46 rfl ?_
  refine lv_istore (lv' := [(7, .int (iI 0)), (6, .int (iI 1)), (0, .ref b), (1, .ref (ad 0)), (2, .ref q2), (3, .ref q3), (4, .ref q4), (5, .ref q5)]) hx hb dL_law_47 hl (by decide) rfl (fun ls hl => ?_)
  refine va_forget (fun q hq => hAf _ (hS.2.2 q hq)) (W.widen (k := 200 + 20 * 0) (n := 20000 + 200 * 0) (Nat.le_of_ble_eq_true rfl) (Nat.le_of_ble_eq_true rfl) ?_)
  exact l_loop1 hst hL E hend 5 0 (by omega) sg g (fun _ => 0) x y H ls J hP hD ⟨hS.1, hS.2.1, fun _ h => nomatch h⟩ (lv_sub hl [2, 3, 4, 5, 6, 7, 1, 0] rfl)
