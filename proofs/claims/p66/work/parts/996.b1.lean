section B1
section JB2
variable {G : jk_G} {M : jk_M} {pc q : Nat} {ls : List (Option Value)} {st : List Value} {n : Nat} {t : jk_T} {σ : jk_I} {ρ : jk_P} {rc rs : Nat} {Q : jk_Q} {X : jk_X}
/-- a virtual call of a method that the object's class inherits and whose name stands in the link -/
theorem jk_callVS {y : MethodName} {M1 : jk_M} {mc ms index na : Nat} {b k : Nat} {As rest : List Value} {Q1 : jk_Q} {X1 : jk_X} (hsel : ∀ s args, jk_Z G s → (∀ w ∈ jk_WS, w.before args s = true) → (Cond.selects (jk_cl k).1 y y).before args s = true) (hK : jk_K G y M1 mc ms (.ref b :: As) n t σ ρ Q1 X1) (hm : jk_me y M1 na) (hinst : Cond.instanceMethod y ∈ jk_WS) (hw : Cond.methodLink (jk_own M) index y ∈ jk_WS) (ht : t b = some (.inr k)) (hna : As.length = na) (hdep : Nat.ble (jk_d M1 + 1) (jk_d M) = true) (hlen : Nat.ble rest.length 4 = true) (hmc : mc ≤ rc) (hms : ms ≤ rs) (htb : jk_tb M = [])
    (hd : decode (jk_cc M) pc = .ok (.invokevirtual index, 3)) (hp : pc + 3 = q) (kk : ∀ v n' t' σ' ρ', Q1 v n' t' σ' ρ' → jk_J G M q ls (v.toList ++ rest) n' t' σ' ρ' (rc - mc) (rs - ms) Q X) (kx : ∀ E n' t' σ' ρ', X1 E n' t' σ' ρ' → X E n' t' σ' ρ') : jk_J G M pc ls (As.reverse ++ .ref b :: rest) n t σ ρ rc rs Q X := by
  subst hp
  intro p e R s m args below meth c H locs cells slots ls' C hl hR hS hc hs
  have hdep := Nat.le_of_ble_eq_true hdep
  have hlen := Nat.le_of_ble_eq_true hlen
  have hts := C.2.2.2.2.2.2.1
  have hok := C.2.2.2.2.2.2.2.2.2.2.2.1
  have hZ := C.2.2.2.2.2.2.2.2.2.2.2.2.1
  have hb0 := C.2.2.2.2.2.2.2.2.2.2.2.2.2
  refine jk_behind (M := M) (mc := mc) (ms := ms) (rc' := rc - mc) (rs' := rs - ms) (rest := rest) (Q1 := Q1) (X1 := X1) (vx_runV (As := As.map (jk_re G)) (C := (jk_cl k).1) (own := jk_own M) (cc := jk_cc M) (nL := jk_nL M) (Ts := jk_WS) (n := na) ⟨C.1, C.2.1, C.2.2.1, C.2.2.2.2.2.1, hts⟩ hK ⟨jk_callB C hm hw hdep, hts _ hinst, hsel s args hZ hts⟩ ⟨jk_blind, jk_recv hR ht, fun U hU hW => ⟨rfl, hok, jk_Zat hok hZ hb0 hS hU hW, by rw [hU]; exact Nat.le_trans hb0 hS.1, by rw [hU]; exact jk_R_moved hW.alike hR⟩⟩ rfl (by rw [List.length_map]; exact hna) (jk_fsz hl) (by simp [F0, jk_re]) ?_ hd ⟨by omega, by omega⟩) C hl hS (by omega) (by omega) (fun x hx => by rw [htb] at hx; cases hx) kk kx
  exact lv_room (Nat.le_trans (jk_catsum rest) (by omega))
/-- super.m(..) -/
theorem jk_callSU {y : MethodName} {M1 : jk_M} {mc ms index na : Nat} {b k : Nat} {As rest : List Value} {Q1 : jk_Q} {X1 : jk_X} (hK : jk_K G y M1 mc ms (.ref b :: As) n t σ ρ Q1 X1) (hm : jk_me y M1 na) (hno : y.name ≠ "<init>") (hinst : Cond.instanceMethod y ∈ jk_WS) (hsame : Cond.sameMethod y.cls y.cls y.name y.desc ∈ jk_WS) (hsup : Cond.superclass (jk_own M) y.cls ∈ jk_WS) (hw : Cond.methodLink (jk_own M) index y ∈ jk_WS) (ht : t b = some (.inr k)) (hna : As.length = na) (hdep : Nat.ble (jk_d M1 + 1) (jk_d M) = true) (hlen : Nat.ble rest.length 4 = true) (hmc : mc ≤ rc) (hms : ms ≤ rs) (htb : jk_tb M = [])
    (hd : decode (jk_cc M) pc = .ok (.invokespecial index, 3)) (hp : pc + 3 = q) (kk : ∀ v n' t' σ' ρ', Q1 v n' t' σ' ρ' → jk_J G M q ls (v.toList ++ rest) n' t' σ' ρ' (rc - mc) (rs - ms) Q X) (kx : ∀ E n' t' σ' ρ', X1 E n' t' σ' ρ' → X E n' t' σ' ρ') : jk_J G M pc ls (As.reverse ++ .ref b :: rest) n t σ ρ rc rs Q X := by
  subst hp
  intro p e R s m args below meth c H locs cells slots ls' C hl hR hS hc hs
  have hdep := Nat.le_of_ble_eq_true hdep
  have hlen := Nat.le_of_ble_eq_true hlen
  have hts := C.2.2.2.2.2.2.1
  have hok := C.2.2.2.2.2.2.2.2.2.2.2.1
  have hZ := C.2.2.2.2.2.2.2.2.2.2.2.2.1
  have hb0 := C.2.2.2.2.2.2.2.2.2.2.2.2.2
  have hd1 := C.2.2.2.2.2.2.2.2.2.1
  have hd2 := C.2.2.2.2.2.2.2.2.2.2.1
  have hcell := hR.2.2.2 b
  rw [ht] at hcell
  obtain ⟨-, -, -, cC, iS, ⟨-, hat⟩, -⟩ := hcell
  obtain ⟨h1, h2, h3, h4, h5, h6, h7, h8⟩ := hm
  have cu : va_CS R s args (jk_own M) index y (jk_cc M1) (jk_nL M1) (jk_rt M1) (Cond.code y (jk_cc M1) (jk_nL M1) (jk_rt M1) :: jk_WS) ({ frames := jk_d M1, cells := mc, slots := ms, locals := 64 * jk_d M1 } : Room) mc ms na := by
    refine ⟨⟨rfl, rfl, by show jk_d M1 + 1 ≤ R.frames; omega, by show 8 + (jk_nL M1 + 11) + 64 * jk_d M1 ≤ R.locals; omega, ?_, List.mem_cons_self⟩, hts _ hw, hts _ hsame, hts _ hsup, hts _ hinst, hts _ h2, hts _ h1, hno, ?_⟩
    · intro w hw a' U hW
      rcases List.mem_cons.mp hw with rfl | hw
      · exact jk_kw_warm (jk_ws_kw h1) hW (hts _ h1)
      · exact jk_kw_warm (jk_ws_kw hw) hW (hts _ hw)
    · intro sig h
      have h4' := h4
      rw [h] at h4'
      exact (Option.some.inj h4').symm
  refine jk_behind (M := M) (mc := mc) (ms := ms) (rc' := rc - mc) (rs' := rs - ms) (rest := rest) (Q1 := Q1) (X1 := X1) (vx_runSU (As := As.map (jk_re G)) (C := (jk_cl k).1) (own := jk_own M) (cc := jk_cc M) (nL := jk_nL M) (Ts := jk_WS) (n := na) hat ⟨C.1, C.2.1, C.2.2.1, C.2.2.2.2.2.1, hts⟩ hK cu ⟨jk_blind, jk_recv hR ht, fun U hU hW => ⟨rfl, hok, jk_Zat hok hZ hb0 hS hU hW, by rw [hU]; exact Nat.le_trans hb0 hS.1, by rw [hU]; exact jk_R_moved hW.alike hR⟩⟩ rfl (by rw [List.length_map]; exact hna) (jk_fsz hl) (by simp [F0, jk_re]) ?_ hd ⟨by omega, by omega⟩) C hl hS (by omega) (by omega) (fun x hx => by rw [htb] at hx; cases hx) kk kx
  exact lv_room (Nat.le_trans (jk_catsum rest) (by omega))
end JB2
/-- the two private methods that a StringBuilder's own are called by: their class's, whatever the object's -/
def zp_ok (G : jk_G) : Prop := ∀ s (args : Array Value), jk_Z G s → (Cond.selects "java/lang/StringBuilder" yJ5_ensureCapacityInternal_d00df yJ5_ensureCapacityInternal_d00df).before args s = true ∧ (Cond.selects "java/lang/StringBuilder" yJ5_newCapacity_0f7a4 yJ5_newCapacity_0f7a4).before args s = true
theorem jm_J5_isLatin1_aae02 : jk_me yJ5_isLatin1_aae02 mJ5_isLatin1_aae02 0 ∧ Cond.instanceMethod yJ5_isLatin1_aae02 ∈ jk_WS := ⟨⟨jw_1260, jw_11, ⟨by decide +kernel, by decide +kernel⟩, by decide +kernel, by decide +kernel, rfl, by decide, fun h => absurd h (by decide), rfl⟩, jw_1257⟩
theorem jm_J5_length_8abf5 : jk_me yJ5_length_8abf5 mJ5_length_8abf5 0 ∧ Cond.instanceMethod yJ5_length_8abf5 ∈ jk_WS := ⟨⟨jw_1380, jw_11, ⟨by decide +kernel, by decide +kernel⟩, by decide +kernel, by decide +kernel, rfl, by decide, fun h => absurd h (by decide), rfl⟩, jw_1374⟩
theorem jm_J5_newCapacity_0f7a4 : jk_me yJ5_newCapacity_0f7a4 mJ5_newCapacity_0f7a4 1 ∧ Cond.instanceMethod yJ5_newCapacity_0f7a4 ∈ jk_WS := ⟨⟨jw_1232, jw_11, ⟨by decide +kernel, by decide +kernel⟩, by decide +kernel, by decide +kernel, rfl, by decide, fun h => absurd h (by decide), rfl⟩, jw_1231⟩
theorem jm_J5_ensureCapacityInternal_d00df : jk_me yJ5_ensureCapacityInternal_d00df mJ5_ensureCapacityInternal_d00df 1 ∧ Cond.instanceMethod yJ5_ensureCapacityInternal_d00df ∈ jk_WS := ⟨⟨jw_1228, jw_11, ⟨by decide +kernel, by decide +kernel⟩, by decide +kernel, by decide +kernel, rfl, by decide, fun h => absurd h (by decide), rfl⟩, jw_1227⟩
theorem jm_J5_setLength_d00df : jk_me yJ5_setLength_d00df mJ5_setLength_d00df 1 ∧ Cond.instanceMethod yJ5_setLength_d00df ∈ jk_WS := ⟨⟨jw_1205, jw_11, ⟨by decide +kernel, by decide +kernel⟩, by decide +kernel, by decide +kernel, rfl, by decide, fun h => absurd h (by decide), rfl⟩, jw_1204⟩
theorem jm_J5_append_3fe6f : jk_me yJ5_append_3fe6f mJ5_append_3fe6f 1 ∧ Cond.instanceMethod yJ5_append_3fe6f ∈ jk_WS := ⟨⟨jw_1477, jw_11, ⟨by decide +kernel, by decide +kernel⟩, by decide +kernel, by decide +kernel, rfl, by decide, fun h => absurd h (by decide), rfl⟩, jw_1476⟩
theorem jm_J5_append_c97b9 : jk_me yJ5_append_c97b9 mJ5_append_c97b9 1 ∧ Cond.instanceMethod yJ5_append_c97b9 ∈ jk_WS := ⟨⟨jw_1336, jw_11, ⟨by decide +kernel, by decide +kernel⟩, by decide +kernel, by decide +kernel, rfl, by decide, fun h => absurd h (by decide), rfl⟩, jw_1335⟩
theorem jm_J5_charAt_5068e : jk_me yJ5_charAt_5068e mJ5_charAt_5068e 1 ∧ Cond.instanceMethod yJ5_charAt_5068e ∈ jk_WS := ⟨⟨jw_1700, jw_11, ⟨by decide +kernel, by decide +kernel⟩, by decide +kernel, by decide +kernel, rfl, by decide, fun h => absurd h (by decide), rfl⟩, jw_1699⟩
/-- a StringBuilder at b, its bytes at v, K of them: it holds L -/
def bd_is (t : jk_T) (ρ : jk_P) (σ : jk_I) (b v K : Nat) (L : List Int) : Prop := bu_at t ρ σ b v K ∧ (K = 16 ∨ K = 34) ∧ σ b 3 = (L.length : Int) ∧ L.length ≤ K ∧ (∀ j : Int, 0 ≤ j ∧ j < (K : Int) → 0 ≤ σ v j ∧ σ v j < 128) ∧ ∀ i : Nat, i < L.length → σ v (i : Int) = L.getD i 0
/-- what a call on it may have changed -/
def bd_fr (b v n : Nat) (t : jk_T) (σ : jk_I) (ρ : jk_P) (w n' : Nat) (t' : jk_T) (σ' : jk_I) (ρ' : jk_P) : Prop := (w = v ∨ n ≤ w) ∧ w < n' ∧ n ≤ n' ∧ (∀ a, a < n → t' a = t a) ∧ (∀ a, a < n → a ≠ b → ρ' a = ρ a) ∧ ∀ a, a < n → a ≠ b → a ≠ v → σ' a = σ a
def bd_Q (r : Option Value) (b v n : Nat) (t : jk_T) (σ : jk_I) (ρ : jk_P) (L : List Int) (m : Nat) : jk_Q := fun v' n' t' σ' ρ' => v' = r ∧ ∃ w K, bd_is t' ρ' σ' b w K L ∧ m ≤ K ∧ bd_fr b v n t σ ρ w n' t' σ' ρ'
theorem bd_fr0 {b v n : Nat} {t : jk_T} {σ : jk_I} {ρ : jk_P} (h : v < n) : bd_fr b v n t σ ρ v n t σ ρ := ⟨Or.inl rfl, h, Nat.le_refl _, fun _ _ => rfl, fun _ _ _ => rfl, fun _ _ _ _ => rfl⟩
theorem bd_frT {b v n w n1 w2 n2 : Nat} {t t1 t2 : jk_T} {σ σ1 σ2 : jk_I} {ρ ρ1 ρ2 : jk_P} (h : bd_fr b v n t σ ρ w n1 t1 σ1 ρ1) (h2 : bd_fr b w n1 t1 σ1 ρ1 w2 n2 t2 σ2 ρ2) : bd_fr b v n t σ ρ w2 n2 t2 σ2 ρ2 := by
  obtain ⟨a1, a2, a3, a4, a5, a6⟩ := h
  obtain ⟨b1, b2, b3, b4, b5, b6⟩ := h2
  refine ⟨by omega, b2, by omega, fun a h => (b4 a (by omega)).trans (a4 a h), fun a h h1 => (b5 a (by omega) h1).trans (a5 a h h1), fun a h h1 h2 => (b6 a (by omega) h1 (by omega)).trans (a6 a h h1 h2)⟩
/-- a row or field of it written -/
theorem bd_frW {b v n w n1 : Nat} {t t1 : jk_T} {σ σ1 σ2 : jk_I} {ρ ρ1 : jk_P} (h : bd_fr b v n t σ ρ w n1 t1 σ1 ρ1) (h2 : ∀ a, a ≠ b → a ≠ w → σ2 a = σ1 a) : bd_fr b v n t σ ρ w n1 t1 σ2 ρ1 := by
  obtain ⟨a1, a2, a3, a4, a5, a6⟩ := h
  exact ⟨a1, a2, a3, a4, a5, fun a h h1 h3 => (h2 a h1 (by omega)).trans (a6 a h h1 h3)⟩
def bd_gS (σ : jk_I) (n v : Nat) : jk_I := jk_row (jk_zr σ n 0) n (fun j => if 0 ≤ j ∧ j < 16 then jk_zr σ n 0 v j else jk_zr σ n 0 n j)
theorem bd_grow {b v n : Nat} {t : jk_T} {σ : jk_I} {ρ : jk_P} {L : List Int} (h : bd_is t ρ σ b v 16 L) (hb : b < n) (hv : v < n) : bd_is (jk_tg t n (.inl (.byte, 34))) (jk_up (jk_zr ρ n none) b 0 (some n)) (bd_gS σ n v) b n 34 L ∧ bd_fr b v n t σ ρ n (n + 2) (jk_tg t n (.inl (.byte, 34))) (bd_gS σ n v) (jk_up (jk_zr ρ n none) b 0 (some n)) := by
  obtain ⟨⟨h1, h2, h3, h4, h5, h6⟩, hK, h7, h8, h9, h10⟩ := h
  have eσ : ∀ a, a ≠ n → bd_gS σ n v a = σ a := fun a ha => by unfold bd_gS; rw [jk_row_ne _ _ ha, jk_zr_row _ _ ha]
  have en : ∀ j : Int, bd_gS σ n v n j = if 0 ≤ j ∧ j < 16 then σ v j else 0 := fun j => by
    unfold bd_gS
    rw [jk_row_same, jk_zr_row _ _ (show v ≠ n by omega)]
    split
    · rfl
    · unfold jk_zr; rw [if_pos rfl]
  have et : ∀ a, a ≠ n → jk_tg t n (.inl (.byte, 34)) a = t a := fun a ha => if_neg ha
  refine ⟨⟨⟨(et b (by omega)).trans h1, if_pos rfl, by unfold jk_up; rw [if_pos ⟨rfl, rfl⟩], by rw [eσ b (by omega)]; exact h4, by decide, hb⟩, Or.inr rfl, by rw [eσ b (by omega)]; exact h7, by omega, fun j hj => ?_, fun i hi => ?_⟩, Or.inr (Nat.le_refl _), by omega, by omega, fun a ha => et a (by omega), fun a ha hab => ?_, fun a ha hab hav => eσ a (by omega)⟩
  · rw [en j]
    split
    · exact h9 j (by omega)
    · exact ⟨by decide, by decide⟩
  · rw [en, if_pos (by omega)]; exact h10 i hi
  · funext j
    unfold jk_up
    rw [if_neg (fun h => hab h.1), jk_zr_row _ _ (by omega)]
theorem bd_app {t : jk_T} {ρ : jk_P} {σ : jk_I} {b v K : Nat} {L : List Int} {c : Int} (h : bd_is t ρ σ b v K L) (hc : 0 ≤ c ∧ c < 128) (hK : L.length + 1 ≤ K) : bd_is t ρ (jk_row (jk_row σ b (jk_set (σ b) 3 ((L.length : Int) + 1))) v (jk_set (σ v) (L.length : Int) c)) b v K (L ++ [c]) := by
  obtain ⟨⟨h1, h2, h3, h4, h5, h6⟩, hK2, h7, h8, h9, h10⟩ := h
  have eb : (jk_row (jk_row σ b (jk_set (σ b) 3 ((L.length : Int) + 1))) v (jk_set (σ v) (L.length : Int) c)) b = jk_set (σ b) 3 ((L.length : Int) + 1) := by rw [jk_row_ne _ _ (by omega), jk_row_same]
  refine ⟨⟨h1, h2, h3, by rw [eb, jk_set_ne _ _ (by decide)]; exact h4, h5, h6⟩, hK2, by rw [eb, jk_set_at, List.length_append]; rfl, by rw [List.length_append]; exact hK, fun j hj => ?_, fun i hi => ?_⟩
  · rw [jk_row_same]
    unfold jk_set
    split
    · exact hc
    · exact h9 j hj
  · rw [List.length_append] at hi
    have hi2 : i < L.length + 1 := hi
    rw [jk_row_same]
    by_cases e : i = L.length
    · subst e
      rw [jk_set_at, List.getD_eq_getElem?_getD, List.getElem?_append_right (Nat.le_refl _), Nat.sub_self]
      rfl
    · rw [jk_set_ne _ _ (by omega), h10 i (by omega), List.getD_eq_getElem?_getD, List.getD_eq_getElem?_getD, List.getElem?_append_left (by omega)]
theorem bd_nil {t : jk_T} {ρ : jk_P} {σ σ1 : jk_I} {b v K : Nat} {L : List Int} (h : bd_is t ρ σ b v K L) (h1 : σ1 b 1 = 0) (h2 : σ1 b 3 = 0) (h3 : σ1 v = σ v) : bd_is t ρ σ1 b v K [] := by
  obtain ⟨⟨g1, g2, g3, g4, g5, g6⟩, hK2, h7, h8, h9, h10⟩ := h
  exact ⟨⟨g1, g2, g3, h1, g5, g6⟩, hK2, h2, Nat.zero_le _, by rw [h3]; exact h9, fun i hi => absurd hi (Nat.not_lt_zero _)⟩
theorem c_J5_isLatin1_aae02 {G : jk_G} {n : Nat} {t : jk_T} {σ : jk_I} {ρ : jk_P} {b v K : Nat} {L : List Int} (hz : zz_ok G) (hbd : bd_is t ρ σ b v K L) : jk_K G yJ5_isLatin1_aae02 mJ5_isLatin1_aae02 0 0 [.ref b] n t σ ρ (jk_q (some (jI (jB true))) n t σ ρ) jk_no := by
  obtain ⟨⟨hu1, hu2, hu3, hu4, hu5, hu6⟩, hK2, hct, hLK, hby, hel⟩ := id hbd
  refine jk_entryB (ls := [some (.ref b)]) jm_J5_isLatin1_aae02.1 rfl rfl rfl ?_
  refine jk_getsI (q := 3) (x := 1) (zz_cs hz) jw_351 dJ5_isLatin1_aae02_0 rfl ?_
  refine jk_ifN_eq (q := 6) (by decide) (by decide) dJ5_isLatin1_aae02_3 rfl rfl ?_
  refine jk_aload_n (q := 7) dJ5_isLatin1_aae02_6 rfl rfl ?_
  refine jk_getIR (q := 10) (k := 14) 1 1 rfl (by first | exact hu1 | exact hu2 | assumption) (by first | exact jk_row_same _ _ _ | ((repeat rewrite [jk_row_ne _ _ (by omega)]); first | exact jk_row_same _ _ _ | rfl)) rfl rfl jw_361 dJ5_isLatin1_aae02_7 rfl ?_
  rw [hu4]
  refine jk_ifN_ne (q := 13) (by decide) (by decide) dJ5_isLatin1_aae02_10 rfl rfl ?_
  refine jk_iconst (q := 14) dJ5_isLatin1_aae02_13 rfl ?_
  refine jk_goto (q := 18) dJ5_isLatin1_aae02_14 rfl ?_
  exact jk_zret rfl (by first | assumption | decide | omega | exact jB_01 _ | exact jB_in _ | exact ⟨by omega, by omega⟩) dJ5_isLatin1_aae02_18 (by first | exact jk_qr | (refine jk_qT ?_; grind) | (refine jk_qF ?_; grind) | (refine jk_qI ?_; grind))
theorem c_J5_length_8abf5 {G : jk_G} {n : Nat} {t : jk_T} {σ : jk_I} {ρ : jk_P} {b v K : Nat} {L : List Int} (hbd : bd_is t ρ σ b v K L) : jk_K G yJ5_length_8abf5 mJ5_length_8abf5 0 0 [.ref b] n t σ ρ (jk_q (some (jI (L.length : Nat))) n t σ ρ) jk_no := by
  obtain ⟨⟨hu1, hu2, hu3, hu4, hu5, hu6⟩, hK2, hct, hLK, hby, hel⟩ := id hbd
  refine jk_entryB (ls := [some (.ref b)]) jm_J5_length_8abf5.1 rfl rfl rfl ?_
  refine jk_aload_n (q := 1) dJ5_length_8abf5_0 rfl rfl ?_
  refine jk_getIR (q := 4) (k := 14) 3 3 rfl (by first | exact hu1 | exact hu2 | assumption) (by first | exact jk_row_same _ _ _ | ((repeat rewrite [jk_row_ne _ _ (by omega)]); first | exact jk_row_same _ _ _ | rfl)) rfl rfl jw_364 dJ5_length_8abf5_1 rfl ?_
  rw [hct]
  exact jk_iret rfl dJ5_length_8abf5_4 (by first | exact jk_qr | (refine jk_qT ?_; grind) | (refine jk_qF ?_; grind) | (refine jk_qI ?_; grind))
theorem c_J4_length_8abf5 {G : jk_G} {n : Nat} {t : jk_T} {σ : jk_I} {ρ : jk_P} {b v K : Nat} {L : List Int} (hbd : bd_is t ρ σ b v K L) : jk_K G yJ4_length_8abf5 mJ4_length_8abf5 0 0 [.ref b] n t σ ρ (jk_q (some (jI (L.length : Nat))) n t σ ρ) jk_no := by
  obtain ⟨⟨hu1, hu2, hu3, hu4, hu5, hu6⟩, hK2, hct, hLK, hby, hel⟩ := id hbd
  refine jk_entryB (ls := [some (.ref b)]) jm_J4_length_8abf5.1 rfl rfl rfl ?_
  refine jk_aload_n (q := 1) dJ4_length_8abf5_0 rfl rfl ?_
  refine jk_callSU (q := 4) (k := 14) (As := []) (c_J5_length_8abf5 hbd) jm_J5_length_8abf5.1 (by decide) jm_J5_length_8abf5.2 jw_1375 jw_373 jw_1379 (by first | exact hu1 | exact hu2 | assumption) rfl rfl rfl (Nat.zero_le _) (Nat.zero_le _) rfl dJ4_length_8abf5_1 rfl (fun v' n' t' σ' ρ' hq => ?_) (fun _ _ _ _ _ h => h.elim)
  obtain ⟨rfl, hn9, ht9, hs9, hr9⟩ := hq
  replace hn9 := hn9.symm; replace ht9 := ht9.symm; replace hs9 := hs9.symm; replace hr9 := hr9.symm; subst hn9 ht9 hs9 hr9
  simp only [Option.toList_some, Option.toList_none, List.cons_append, List.nil_append, Nat.sub_zero]
  exact jk_iret rfl dJ4_length_8abf5_4 (by first | exact jk_qr | (refine jk_qT ?_; grind) | (refine jk_qF ?_; grind) | (refine jk_qI ?_; grind))
theorem c_J1_canEncode_fc78d {G : jk_G} {n : Nat} {t : jk_T} {σ : jk_I} {ρ : jk_P} {c : Int} (hc : 0 ≤ c ∧ c < 128) : jk_K G yJ1_canEncode_fc78d mJ1_canEncode_fc78d 0 0 [jI c] n t σ ρ (jk_q (some (jI (jB true))) n t σ ρ) jk_no := by
  refine jk_entryB (ls := [some (jI c)]) jm_J1_canEncode_fc78d.1 rfl rfl rfl ?_
  refine jk_iload_n (q := 1) dJ1_canEncode_fc78d_0 rfl rfl ?_
  refine jk_sipush (q := 4) (y := 255) dJ1_canEncode_fc78d_1 rfl (by decide) ?_
  refine jk_icmp_gt (q := 11) (q2 := 7) dJ1_canEncode_fc78d_4 rfl rfl (by first | assumption | decide | omega | exact jB_01 _ | exact jB_in _ | exact ⟨by omega, by omega⟩) (by first | assumption | decide | omega | exact jB_01 _ | exact jB_in _ | exact ⟨by omega, by omega⟩) (fun z1 => ?_) (fun z1 => ?_)
  · exfalso; omega
  · refine jk_iconst (q := 8) dJ1_canEncode_fc78d_7 rfl ?_
    refine jk_goto (q := 12) dJ1_canEncode_fc78d_8 rfl ?_
    exact jk_zret rfl (by first | assumption | decide | omega | exact jB_01 _ | exact jB_in _ | exact ⟨by omega, by omega⟩) dJ1_canEncode_fc78d_12 (by first | exact jk_qr | (refine jk_qT ?_; grind) | (refine jk_qF ?_; grind) | (refine jk_qI ?_; grind))
theorem c_J8_newLength_cabcc {G : jk_G} {n : Nat} {t : jk_T} {σ : jk_I} {ρ : jk_P} {g : Int} (hg : 0 < g ∧ g ≤ 18) : jk_K G yJ8_newLength_cabcc mJ8_newLength_cabcc 0 0 [jI 16, jI g, jI 18] n t σ ρ (jk_q (some (jI 34)) n t σ ρ) jk_no := by
  refine jk_entryB (ls := [some (jI 16), some (jI g), some (jI 18), none]) jm_J8_newLength_cabcc.1 rfl rfl rfl ?_
  refine jk_iload_n (q := 1) dJ8_newLength_cabcc_0 rfl rfl ?_
  refine jk_iload_n (q := 2) dJ8_newLength_cabcc_1 rfl rfl ?_
  refine jk_iload_n (q := 3) dJ8_newLength_cabcc_2 rfl rfl ?_
  refine jk_mmax (q := 6) jw_1236 rfl rfl (by first | assumption | decide | omega | exact jB_01 _ | exact jB_in _ | exact ⟨by omega, by omega⟩) (by first | assumption | decide | omega | exact jB_01 _ | exact jB_in _ | exact ⟨by omega, by omega⟩) dJ8_newLength_cabcc_3 rfl ?_
  refine jk_iadd (q := 7) dJ8_newLength_cabcc_6 rfl ?_
  rw [show (16 : Int) + (if g < 18 then (18 : Int) else g) = 34 by split <;> omega]
  refine jk_istore3 (q := 8) dJ8_newLength_cabcc_7 rfl rfl rfl ?_
  refine jk_iconst (q := 9) dJ8_newLength_cabcc_8 rfl ?_
  refine jk_iload_n (q := 10) dJ8_newLength_cabcc_9 rfl rfl ?_
  refine jk_icmp_ge (q := 21) (q2 := 13) dJ8_newLength_cabcc_10 rfl rfl (by first | assumption | decide | omega | exact jB_01 _ | exact jB_in _ | exact ⟨by omega, by omega⟩) (by first | assumption | decide | omega | exact jB_01 _ | exact jB_in _ | exact ⟨by omega, by omega⟩) (fun z1 => ?_) (fun z1 => ?_)
  · exfalso; omega
  · refine jk_iload_n (q := 14) dJ8_newLength_cabcc_13 rfl rfl ?_
    refine jk_ldcV (q := 16) (x := 2147483639) jw_1237 (by decide) dJ8_newLength_cabcc_14 rfl ?_
    refine jk_icmp_gt (q := 21) (q2 := 19) dJ8_newLength_cabcc_16 rfl rfl (by first | assumption | decide | omega | exact jB_01 _ | exact jB_in _ | exact ⟨by omega, by omega⟩) (by first | assumption | decide | omega | exact jB_01 _ | exact jB_in _ | exact ⟨by omega, by omega⟩) (fun z2 => ?_) (fun z2 => ?_)
    · exfalso; omega
    · refine jk_iload_n (q := 20) dJ8_newLength_cabcc_19 rfl rfl ?_
      exact jk_iret rfl dJ8_newLength_cabcc_20 (by first | exact jk_qr | (refine jk_qT ?_; grind) | (refine jk_qF ?_; grind) | (refine jk_qI ?_; grind))
theorem c_J5_newCapacity_0f7a4 {G : jk_G} {n : Nat} {t : jk_T} {σ : jk_I} {ρ : jk_P} {b v : Nat} {L : List Int}{m : Int} (hbd : bd_is t ρ σ b v 16 L) (hm : 16 < m ∧ m ≤ 34) : jk_K G yJ5_newCapacity_0f7a4 mJ5_newCapacity_0f7a4 0 0 [.ref b, jI m] n t σ ρ (jk_q (some (jI 34)) n t σ ρ) jk_no := by
  obtain ⟨⟨hu1, hu2, hu3, hu4, hu5, hu6⟩, hK2, hct, hLK, hby, hel⟩ := id hbd
  refine jk_entryB (ls := [some (.ref b), some (jI m), none, none, none, none]) jm_J5_newCapacity_0f7a4.1 rfl rfl rfl ?_
  refine jk_aload_n (q := 1) dJ5_newCapacity_0f7a4_0 rfl rfl ?_
  refine jk_getA (q := 4) (k := 14) 0 0 rfl (by first | exact hu1 | exact hu2 | assumption) (by exact hu3) rfl rfl jw_360 dJ5_newCapacity_0f7a4_1 rfl ?_
  refine jk_alen (q := 5) (by first | exact hu1 | exact hu2 | assumption) dJ5_newCapacity_0f7a4_4 rfl ?_
  refine jk_istore2 (q := 6) dJ5_newCapacity_0f7a4_5 rfl rfl rfl ?_
  refine jk_iload_n (q := 7) dJ5_newCapacity_0f7a4_6 rfl rfl ?_
  refine jk_aload_n (q := 8) dJ5_newCapacity_0f7a4_7 rfl rfl ?_
  refine jk_getIR (q := 11) (k := 14) 1 1 rfl (by first | exact hu1 | exact hu2 | assumption) (by first | exact jk_row_same _ _ _ | ((repeat rewrite [jk_row_ne _ _ (by omega)]); first | exact jk_row_same _ _ _ | rfl)) rfl rfl jw_361 dJ5_newCapacity_0f7a4_8 rfl ?_
  rw [hu4]
  refine jk_ishl0 (q := 12) dJ5_newCapacity_0f7a4_11 rfl ?_
  refine jk_istore3 (q := 13) dJ5_newCapacity_0f7a4_12 rfl rfl rfl ?_
  refine jk_iload_n (q := 14) dJ5_newCapacity_0f7a4_13 rfl rfl ?_
  refine jk_iload_n (q := 15) dJ5_newCapacity_0f7a4_14 rfl rfl ?_
  refine jk_isub (q := 16) dJ5_newCapacity_0f7a4_15 rfl ?_
  refine jk_istore4 (q := 18) dJ5_newCapacity_0f7a4_16 rfl rfl rfl ?_
  refine jk_iload_n (q := 19) dJ5_newCapacity_0f7a4_18 rfl rfl ?_
  refine jk_iload (q := 21) dJ5_newCapacity_0f7a4_19 rfl rfl ?_
  refine jk_iload_n (q := 22) dJ5_newCapacity_0f7a4_21 rfl rfl ?_
  refine jk_iconst (q := 23) dJ5_newCapacity_0f7a4_22 rfl ?_
  refine jk_aload_n (q := 24) dJ5_newCapacity_0f7a4_23 rfl rfl ?_
  refine jk_getIR (q := 27) (k := 14) 1 1 rfl (by first | exact hu1 | exact hu2 | assumption) (by first | exact jk_row_same _ _ _ | ((repeat rewrite [jk_row_ne _ _ (by omega)]); first | exact jk_row_same _ _ _ | rfl)) rfl rfl jw_361 dJ5_newCapacity_0f7a4_24 rfl ?_
  rw [hu4]
  refine jk_ishl0 (q := 28) dJ5_newCapacity_0f7a4_27 rfl ?_
  refine jk_iadd (q := 29) dJ5_newCapacity_0f7a4_28 rfl ?_
  refine jk_cS3p (q := 32) (c_J8_newLength_cabcc (g := m - 16) ⟨by omega, by omega⟩) jm_J8_newLength_cabcc jw_1233 rfl rfl rfl dJ5_newCapacity_0f7a4_29 rfl ?_
  refine jk_istore5 (q := 34) dJ5_newCapacity_0f7a4_32 rfl rfl rfl ?_
  refine jk_iload (q := 36) dJ5_newCapacity_0f7a4_34 rfl rfl ?_
  refine jk_ldcV (q := 38) (x := 2147483647) jw_1241 (by decide) dJ5_newCapacity_0f7a4_36 rfl ?_
  refine jk_icmp_ne (q := 51) (q2 := 41) dJ5_newCapacity_0f7a4_38 rfl rfl (by first | assumption | decide | omega | exact jB_01 _ | exact jB_in _ | exact ⟨by omega, by omega⟩) (by first | assumption | decide | omega | exact jB_01 _ | exact jB_in _ | exact ⟨by omega, by omega⟩) (fun z1 => ?_) (fun z1 => ?_)
  · refine jk_iload (q := 53) dJ5_newCapacity_0f7a4_51 rfl rfl ?_
    refine jk_aload_n (q := 54) dJ5_newCapacity_0f7a4_53 rfl rfl ?_
    refine jk_getIR (q := 57) (k := 14) 1 1 rfl (by first | exact hu1 | exact hu2 | assumption) (by first | exact jk_row_same _ _ _ | ((repeat rewrite [jk_row_ne _ _ (by omega)]); first | exact jk_row_same _ _ _ | rfl)) rfl rfl jw_361 dJ5_newCapacity_0f7a4_54 rfl ?_
    rw [hu4]
    refine jk_ishr0 (q := 58) dJ5_newCapacity_0f7a4_57 rfl ?_
    exact jk_iret rfl dJ5_newCapacity_0f7a4_58 (by first | exact jk_qr | (refine jk_qT ?_; grind) | (refine jk_qF ?_; grind) | (refine jk_qI ?_; grind))
  · exfalso; omega
theorem c_J7_copyOf_9075b {G : jk_G} {n : Nat} {t : jk_T} {σ : jk_I} {ρ : jk_P} {v : Nat} (hv : t v = some (.inl (.byte, 16))) (hvn : v < n) (hby : ∀ j : Int, 0 ≤ j ∧ j < 16 → 0 ≤ σ v j ∧ σ v j < 128) : jk_K G yJ7_copyOf_9075b mJ7_copyOf_9075b 1 34 [.ref v, jI 34] n t σ ρ (jk_q (some (.ref n)) (n + 2) (jk_tg t n (.inl (.byte, 34))) (bd_gS σ n v) (jk_zr ρ n none)) jk_no := by
  refine jk_entryB (ls := [some (.ref v), some (jI 34), none]) jm_J7_copyOf_9075b.1 rfl rfl rfl ?_
  refine jk_iload_n (q := 1) dJ7_copyOf_9075b_0 rfl rfl ?_
  refine jk_aload_n (q := 2) dJ7_copyOf_9075b_1 rfl rfl ?_
  refine jk_alen (q := 3) (by first | assumption | exact if_pos rfl | exact (if_neg (by omega)).trans hv) dJ7_copyOf_9075b_2 rfl ?_
  refine jk_icmp_ne (q := 14) (q2 := 6) dJ7_copyOf_9075b_3 rfl rfl (by first | assumption | decide | omega | exact jB_01 _ | exact jB_in _ | exact ⟨by omega, by omega⟩) (by first | assumption | decide | omega | exact jB_01 _ | exact jB_in _ | exact ⟨by omega, by omega⟩) (fun z1 => ?_) (fun z1 => ?_)
  · refine jk_iload_n (q := 15) dJ7_copyOf_9075b_14 rfl rfl ?_
    refine jk_newarr (q := 17) (atype := .byte) (ty := .byte) (len := 34) rfl jw_374 rfl (by decide) (by decide) (by decide) dJ7_copyOf_9075b_15 rfl ?_
    refine jk_astore2 (q := 18) dJ7_copyOf_9075b_17 rfl rfl rfl ?_
    refine jk_aload_n (q := 19) dJ7_copyOf_9075b_18 rfl rfl ?_
    refine jk_iconst (q := 20) dJ7_copyOf_9075b_19 rfl ?_
    refine jk_aload_n (q := 21) dJ7_copyOf_9075b_20 rfl rfl ?_
    refine jk_iconst (q := 22) dJ7_copyOf_9075b_21 rfl ?_
    refine jk_aload_n (q := 23) dJ7_copyOf_9075b_22 rfl rfl ?_
    refine jk_alen (q := 24) (by first | assumption | exact if_pos rfl | exact (if_neg (by omega)).trans hv) dJ7_copyOf_9075b_23 rfl ?_
    refine jk_iload_n (q := 25) dJ7_copyOf_9075b_24 rfl rfl ?_
    refine jk_mmin (q := 28) jw_1252 rfl rfl (by first | assumption | decide | omega | exact jB_01 _ | exact jB_in _ | exact ⟨by omega, by omega⟩) (by first | assumption | decide | omega | exact jB_01 _ | exact jB_in _ | exact ⟨by omega, by omega⟩) dJ7_copyOf_9075b_25 rfl ?_
    rw [show (if (34 : Int) < ((16 : Nat) : Int) then (34 : Int) else ((16 : Nat) : Int)) = 16 by decide]
    refine jk_copyb (q := 31) (by first | assumption | exact if_pos rfl | exact (if_neg (by omega)).trans hv) (by first | assumption | exact if_pos rfl | exact (if_neg (by omega)).trans hv) (by first | assumption | decide | omega | exact jB_01 _ | exact jB_in _ | exact ⟨by omega, by omega⟩) (by intro j hj; rw [jk_zr_row _ _ (by omega)]; exact hby j ⟨by omega, by omega⟩) jw_1253 rfl rfl dJ7_copyOf_9075b_28 rfl ?_
    refine jk_aload_n (q := 32) dJ7_copyOf_9075b_31 rfl rfl ?_
    exact jk_aret rfl (by first | exact Or.inl ⟨_, rfl⟩ | exact Or.inr ⟨_, rfl⟩) dJ7_copyOf_9075b_32 (by unfold bd_gS; exact jk_qr)
  · exfalso; omega
theorem c_J5_ensureCapacityInternal_d00df {G : jk_G} {n : Nat} {t : jk_T} {σ : jk_I} {ρ : jk_P} {b v K : Nat} {L : List Int}{m : Int} (hbd : bd_is t ρ σ b v K L) (hzp : zp_ok G) (hb : b < n) (hv : v < n) (hm : 0 ≤ m ∧ m ≤ 34) : jk_K G yJ5_ensureCapacityInternal_d00df mJ5_ensureCapacityInternal_d00df 1 34 [.ref b, jI m] n t σ ρ (bd_Q none b v n t σ ρ L m.toNat) jk_no := by
  obtain ⟨⟨hu1, hu2, hu3, hu4, hu5, hu6⟩, hK2, hct, hLK, hby, hel⟩ := id hbd
  refine jk_entryB (ls := [some (.ref b), some (jI m), none]) jm_J5_ensureCapacityInternal_d00df.1 rfl rfl rfl ?_
  refine jk_aload_n (q := 1) dJ5_ensureCapacityInternal_d00df_0 rfl rfl ?_
  refine jk_getA (q := 4) (k := 14) 0 0 rfl (by first | exact hu1 | exact hu2 | exact (if_neg (by omega)).trans hu1) (by exact hu3) rfl rfl jw_360 dJ5_ensureCapacityInternal_d00df_1 rfl ?_
  refine jk_alen (q := 5) (by first | exact hu1 | exact hu2 | exact (if_neg (by omega)).trans hu1) dJ5_ensureCapacityInternal_d00df_4 rfl ?_
  refine jk_aload_n (q := 6) dJ5_ensureCapacityInternal_d00df_5 rfl rfl ?_
  refine jk_getIR (q := 9) (k := 14) 1 1 rfl (by first | exact hu1 | exact hu2 | exact (if_neg (by omega)).trans hu1) (by first | exact jk_row_same _ _ _ | ((repeat rewrite [jk_row_ne _ _ (by omega)]); first | exact jk_row_same _ _ _ | rfl)) rfl rfl jw_361 dJ5_ensureCapacityInternal_d00df_6 rfl ?_
  rw [hu4]
  refine jk_ishr0 (q := 10) dJ5_ensureCapacityInternal_d00df_9 rfl ?_
  refine jk_istore2 (q := 11) dJ5_ensureCapacityInternal_d00df_10 rfl rfl rfl ?_
  refine jk_iload_n (q := 12) dJ5_ensureCapacityInternal_d00df_11 rfl rfl ?_
  refine jk_iload_n (q := 13) dJ5_ensureCapacityInternal_d00df_12 rfl rfl ?_
  refine jk_isub (q := 14) dJ5_ensureCapacityInternal_d00df_13 rfl ?_
  refine jk_if_le (q := 38) (q2 := 17) dJ5_ensureCapacityInternal_d00df_14 rfl rfl (by first | assumption | decide | omega | exact jB_01 _ | exact jB_in _ | exact ⟨by omega, by omega⟩) (fun z1 => ?_) (fun z1 => ?_)
  · exact jk_ret rfl dJ5_ensureCapacityInternal_d00df_38 (by first | exact ⟨rfl, v, K, hbd, by omega, bd_fr0 hv⟩ | exact ⟨rfl, n, 34, (bd_grow hbd hb hv).1, by omega, (bd_grow hbd hb hv).2⟩)
  · have hK : K = 16 := by omega
    subst hK
    refine jk_aload_n (q := 18) dJ5_ensureCapacityInternal_d00df_17 rfl rfl ?_
    refine jk_aload_n (q := 19) dJ5_ensureCapacityInternal_d00df_18 rfl rfl ?_
    refine jk_getA (q := 22) (k := 14) 0 0 rfl (by first | exact hu1 | exact hu2 | exact (if_neg (by omega)).trans hu1) (by exact hu3) rfl rfl jw_360 dJ5_ensureCapacityInternal_d00df_19 rfl ?_
    refine jk_aload_n (q := 23) dJ5_ensureCapacityInternal_d00df_22 rfl rfl ?_
    refine jk_iload_n (q := 24) dJ5_ensureCapacityInternal_d00df_23 rfl rfl ?_
    refine jk_callVS (q := 27) (k := 14) (As := [jI m]) (fun s args hZ _ => (hzp s args hZ).2) (c_J5_newCapacity_0f7a4 hbd ⟨by omega, by omega⟩) jm_J5_newCapacity_0f7a4.1 jm_J5_newCapacity_0f7a4.2 jw_1229 (by first | exact hu1 | exact hu2 | exact (if_neg (by omega)).trans hu1) rfl rfl rfl (Nat.zero_le _) (Nat.zero_le _) rfl dJ5_ensureCapacityInternal_d00df_24 rfl (fun v' n' t' σ' ρ' hq => ?_) (fun _ _ _ _ _ h => h.elim)
    obtain ⟨rfl, hn9, ht9, hs9, hr9⟩ := hq
    replace hn9 := hn9.symm; replace ht9 := ht9.symm; replace hs9 := hs9.symm; replace hr9 := hr9.symm; subst hn9 ht9 hs9 hr9
    simp only [Option.toList_some, Option.toList_none, List.cons_append, List.nil_append, Nat.sub_zero]
    refine jk_aload_n (q := 28) dJ5_ensureCapacityInternal_d00df_27 rfl rfl ?_
    refine jk_getIR (q := 31) (k := 14) 1 1 rfl (by first | exact hu1 | exact hu2 | exact (if_neg (by omega)).trans hu1) (by first | exact jk_row_same _ _ _ | ((repeat rewrite [jk_row_ne _ _ (by omega)]); first | exact jk_row_same _ _ _ | rfl)) rfl rfl jw_361 dJ5_ensureCapacityInternal_d00df_28 rfl ?_
    rw [hu4]
    refine jk_ishl0 (q := 32) dJ5_ensureCapacityInternal_d00df_31 rfl ?_
    refine jk_cS2d (q := 35) (c_J7_copyOf_9075b hu2 hv (fun j hj => hby j hj)) jm_J7_copyOf_9075b jw_1242 rfl rfl (by decide) (by decide) rfl dJ5_ensureCapacityInternal_d00df_32 rfl ?_
    refine jk_putA (q := 38) (k := 14) 0 0 rfl (by first | exact hu1 | exact hu2 | exact (if_neg (by omega)).trans hu1) rfl rfl (by first | exact Or.inl ⟨_, rfl⟩ | exact Or.inr ⟨_, rfl⟩) jw_360 dJ5_ensureCapacityInternal_d00df_35 rfl ?_
    exact jk_ret rfl dJ5_ensureCapacityInternal_d00df_38 (by first | exact ⟨rfl, v, K, hbd, by omega, bd_fr0 hv⟩ | exact ⟨rfl, n, 34, (bd_grow hbd hb hv).1, by omega, (bd_grow hbd hb hv).2⟩)
theorem c_J5_setLength_d00df {G : jk_G} {n : Nat} {t : jk_T} {σ : jk_I} {ρ : jk_P} {b v K : Nat} {L : List Int} (hbd : bd_is t ρ σ b v K L) (hzp : zp_ok G) (hb : b < n) (hv : v < n) : jk_K G yJ5_setLength_d00df mJ5_setLength_d00df 1 34 [.ref b, jI 0] n t σ ρ (bd_Q none b v n t σ ρ [] 0) jk_no := by
  obtain ⟨⟨hu1, hu2, hu3, hu4, hu5, hu6⟩, hK2, hct, hLK, hby, hel⟩ := id hbd
  refine jk_entryB (ls := [some (.ref b), some (jI 0)]) jm_J5_setLength_d00df.1 rfl rfl rfl ?_
  refine jk_iload_n (q := 1) dJ5_setLength_d00df_0 rfl rfl ?_
  refine jk_ifT_ge (q := 13) (by decide) (by decide) dJ5_setLength_d00df_1 rfl ?_
  refine jk_aload_n (q := 14) dJ5_setLength_d00df_13 rfl rfl ?_
  refine jk_iload_n (q := 15) dJ5_setLength_d00df_14 rfl rfl ?_
  refine jk_callVS (q := 18) (k := 14) (As := [jI (0)]) (fun s args hZ _ => (hzp s args hZ).1) (c_J5_ensureCapacityInternal_d00df (m := 0) hbd hzp hb hv ⟨by decide, by decide⟩) jm_J5_ensureCapacityInternal_d00df.1 jm_J5_ensureCapacityInternal_d00df.2 jw_1225 (by first | exact hu1 | exact hu2 | assumption) rfl rfl rfl (by decide) (by decide) rfl dJ5_setLength_d00df_15 rfl (fun v' n' t' σ' ρ' hq => ?_) (fun _ _ _ _ _ h => h.elim)
  obtain ⟨rfl, w, K1, hbd1, hmK, hfr⟩ := hq
  simp only [Option.toList_some, Option.toList_none, List.cons_append, List.nil_append]
  obtain ⟨⟨hu1, hu2, hu3, hu4, hu5, hu6⟩, hK2, hct, hLK, hby, hel⟩ := id hbd1
  refine jk_aload_n (q := 19) dJ5_setLength_d00df_18 rfl rfl ?_
  refine jk_getIR (q := 22) (k := 14) 3 3 rfl (by first | exact hu1 | exact hu2 | assumption) (by first | exact jk_row_same _ _ _ | ((repeat rewrite [jk_row_ne _ _ (by omega)]); first | exact jk_row_same _ _ _ | rfl)) rfl rfl jw_364 dJ5_setLength_d00df_19 rfl ?_
  rw [hct]
  refine jk_iload_n (q := 23) dJ5_setLength_d00df_22 rfl rfl ?_
  refine jk_icmp_ge (q := 63) (q2 := 26) dJ5_setLength_d00df_23 rfl rfl (by first | assumption | decide | omega | exact jB_01 _ | exact jB_in _ | exact ⟨by omega, by omega⟩) (by first | assumption | decide | omega | exact jB_01 _ | exact jB_in _ | exact ⟨by omega, by omega⟩) (fun z1 => ?_) (fun z1 => ?_)
  · refine jk_aload_n (q := 64) dJ5_setLength_d00df_63 rfl rfl ?_
    refine jk_getIR (q := 67) (k := 14) 3 3 rfl (by first | exact hu1 | exact hu2 | assumption) (by first | exact jk_row_same _ _ _ | ((repeat rewrite [jk_row_ne _ _ (by omega)]); first | exact jk_row_same _ _ _ | rfl)) rfl rfl jw_364 dJ5_setLength_d00df_64 rfl ?_
    rw [hct]
    refine jk_iload_n (q := 68) dJ5_setLength_d00df_67 rfl rfl ?_
    refine jk_icmp_le (q := 76) (q2 := 71) dJ5_setLength_d00df_68 rfl rfl (by first | assumption | decide | omega | exact jB_01 _ | exact jB_in _ | exact ⟨by omega, by omega⟩) (by first | assumption | decide | omega | exact jB_01 _ | exact jB_in _ | exact ⟨by omega, by omega⟩) (fun z2 => ?_) (fun z2 => ?_)
    · refine jk_aload_n (q := 77) dJ5_setLength_d00df_76 rfl rfl ?_
      refine jk_iload_n (q := 78) dJ5_setLength_d00df_77 rfl rfl ?_
      refine jk_putIR (q := 81) (k := 14) 3 3 rfl (by first | exact hu1 | exact hu2 | assumption) (by first | exact jk_row_same _ _ _ | ((repeat rewrite [jk_row_ne _ _ (by omega)]); first | exact jk_row_same _ _ _ | rfl)) rfl rfl rfl jw_364 dJ5_setLength_d00df_78 rfl ?_
      exact jk_ret rfl dJ5_setLength_d00df_81 (by exact ⟨rfl, w, K1, bd_nil hbd1 (by (repeat rewrite [jk_row_same]); (repeat rewrite [jk_set_ne _ _ (by decide)]); exact hu4) (by rw [jk_row_same, jk_set_at]) (by (repeat rewrite [jk_row_ne _ _ (by omega)]); rfl), Nat.zero_le _, bd_frW hfr (fun a h1 h2 => by (repeat rewrite [jk_row_ne _ _ h1]); rfl)⟩)
    · refine jk_aload_n (q := 72) dJ5_setLength_d00df_71 rfl rfl ?_
      refine jk_iconst (q := 73) dJ5_setLength_d00df_72 rfl ?_
      refine jk_putZR (q := 76) (k := 14) 2 2 rfl (by first | exact hu1 | exact hu2 | assumption) (by first | exact jk_row_same _ _ _ | ((repeat rewrite [jk_row_ne _ _ (by omega)]); first | exact jk_row_same _ _ _ | rfl)) rfl rfl rfl (by first | assumption | decide | omega | exact jB_01 _ | exact jB_in _ | exact ⟨by omega, by omega⟩) jw_362 dJ5_setLength_d00df_73 rfl ?_
      refine jk_aload_n (q := 77) dJ5_setLength_d00df_76 rfl rfl ?_
      refine jk_iload_n (q := 78) dJ5_setLength_d00df_77 rfl rfl ?_
      refine jk_putIR (q := 81) (k := 14) 3 3 rfl (by first | exact hu1 | exact hu2 | assumption) (by first | exact jk_row_same _ _ _ | ((repeat rewrite [jk_row_ne _ _ (by omega)]); first | exact jk_row_same _ _ _ | rfl)) rfl rfl rfl jw_364 dJ5_setLength_d00df_78 rfl ?_
      exact jk_ret rfl dJ5_setLength_d00df_81 (by exact ⟨rfl, w, K1, bd_nil hbd1 (by (repeat rewrite [jk_row_same]); (repeat rewrite [jk_set_ne _ _ (by decide)]); exact hu4) (by rw [jk_row_same, jk_set_at]) (by (repeat rewrite [jk_row_ne _ _ (by omega)]); rfl), Nat.zero_le _, bd_frW hfr (fun a h1 h2 => by (repeat rewrite [jk_row_ne _ _ h1]); rfl)⟩)
  · exfalso; omega
theorem c_J4_setLength_d00df {G : jk_G} {n : Nat} {t : jk_T} {σ : jk_I} {ρ : jk_P} {b v K : Nat} {L : List Int} (hbd : bd_is t ρ σ b v K L) (hzp : zp_ok G) (hb : b < n) (hv : v < n) : jk_K G yJ4_setLength_d00df mJ4_setLength_d00df 1 34 [.ref b, jI 0] n t σ ρ (bd_Q none b v n t σ ρ [] 0) jk_no := by
  obtain ⟨⟨hu1, hu2, hu3, hu4, hu5, hu6⟩, hK2, hct, hLK, hby, hel⟩ := id hbd
  refine jk_entryB (ls := [some (.ref b), some (jI 0)]) jm_J4_setLength_d00df.1 rfl rfl rfl ?_
  refine jk_aload_n (q := 1) dJ4_setLength_d00df_0 rfl rfl ?_
  refine jk_iload_n (q := 2) dJ4_setLength_d00df_1 rfl rfl ?_
  refine jk_callSU (q := 5) (k := 14) (As := [jI 0]) (c_J5_setLength_d00df hbd hzp hb hv) jm_J5_setLength_d00df.1 (by decide) jm_J5_setLength_d00df.2 jw_1746 jw_373 jw_1203 (by first | exact hu1 | exact hu2 | assumption) rfl rfl rfl (by decide) (by decide) rfl dJ4_setLength_d00df_2 rfl (fun v' n' t' σ' ρ' hq => ?_) (fun _ _ _ _ _ h => h.elim)
  obtain ⟨rfl, hq⟩ := hq
  simp only [Option.toList_some, Option.toList_none, List.cons_append, List.nil_append]
  exact jk_ret rfl dJ4_setLength_d00df_5 (by exact ⟨rfl, hq⟩)
theorem c_J5_append_3fe6f {G : jk_G} {n : Nat} {t : jk_T} {σ : jk_I} {ρ : jk_P} {b v K : Nat} {L : List Int}{c : Int} (hbd : bd_is t ρ σ b v K L) (hz : zz_ok G) (hzp : zp_ok G) (hb : b < n) (hv : v < n) (hc : 0 ≤ c ∧ c < 128) (hl : L.length + 1 ≤ 34) : jk_K G yJ5_append_3fe6f mJ5_append_3fe6f 1 34 [.ref b, jI c] n t σ ρ (bd_Q (some (.ref b)) b v n t σ ρ (L ++ [c]) 0) jk_no := by
  obtain ⟨⟨hu1, hu2, hu3, hu4, hu5, hu6⟩, hK2, hct, hLK, hby, hel⟩ := id hbd
  refine jk_entryB (ls := [some (.ref b), some (jI c)]) jm_J5_append_3fe6f.1 rfl rfl rfl ?_
  refine jk_aload_n (q := 1) dJ5_append_3fe6f_0 rfl rfl ?_
  refine jk_aload_n (q := 2) dJ5_append_3fe6f_1 rfl rfl ?_
  refine jk_getIR (q := 5) (k := 14) 3 3 rfl (by first | exact hu1 | exact hu2 | assumption) (by first | exact jk_row_ne _ _ (by omega) | rfl) rfl rfl jw_364 dJ5_append_3fe6f_2 rfl ?_
  rw [hct]
  refine jk_iconst (q := 6) dJ5_append_3fe6f_5 rfl ?_
  refine jk_iadd (q := 7) dJ5_append_3fe6f_6 rfl ?_
  refine jk_callVS (q := 10) (k := 14) (As := [jI ((L.length : Int) + 1)]) (fun s args hZ _ => (hzp s args hZ).1) (c_J5_ensureCapacityInternal_d00df (m := (L.length : Int) + 1) hbd hzp hb hv ⟨by omega, by omega⟩) jm_J5_ensureCapacityInternal_d00df.1 jm_J5_ensureCapacityInternal_d00df.2 jw_1225 (by first | exact hu1 | exact hu2 | assumption) rfl rfl rfl (by decide) (by decide) rfl dJ5_append_3fe6f_7 rfl (fun v' n' t' σ' ρ' hq => ?_) (fun _ _ _ _ _ h => h.elim)
  obtain ⟨rfl, w, K1, hbd1, hmK, hfr⟩ := hq
  simp only [Option.toList_some, Option.toList_none, List.cons_append, List.nil_append]
  obtain ⟨⟨hu1, hu2, hu3, hu4, hu5, hu6⟩, hK2, hct, hLK, hby, hel⟩ := id hbd1
  refine jk_aload_n (q := 11) dJ5_append_3fe6f_10 rfl rfl ?_
  refine jk_callVS (q := 14) (k := 14) (As := []) (fun s args _ h => h _ jw_1259) (c_J5_isLatin1_aae02 hz hbd1) jm_J5_isLatin1_aae02.1 jm_J5_isLatin1_aae02.2 jw_1256 (by first | exact hu1 | exact hu2 | assumption) rfl rfl rfl (Nat.zero_le _) (Nat.zero_le _) rfl dJ5_append_3fe6f_11 rfl (fun v' n' t' σ' ρ' hq => ?_) (fun _ _ _ _ _ h => h.elim)
  obtain ⟨rfl, hn9, ht9, hs9, hr9⟩ := hq
  replace hn9 := hn9.symm; replace ht9 := ht9.symm; replace hs9 := hs9.symm; replace hr9 := hr9.symm; subst hn9 ht9 hs9 hr9
  simp only [Option.toList_some, Option.toList_none, List.cons_append, List.nil_append, Nat.sub_zero]
  refine jk_ifB_eq (q := 45) (q2 := 17) dJ5_append_3fe6f_14 rfl rfl (fun z1 => ?_) (fun z1 => ?_)
  · exact absurd ‹_› (by decide)
  · refine jk_iload_n (q := 18) dJ5_append_3fe6f_17 rfl rfl ?_
    refine jk_cS1p (q := 21) (c_J1_canEncode_fc78d hc) jm_J1_canEncode_fc78d jw_1478 rfl rfl rfl dJ5_append_3fe6f_18 rfl ?_
    refine jk_ifB_eq (q := 45) (q2 := 24) dJ5_append_3fe6f_21 rfl rfl (fun z2 => ?_) (fun z2 => ?_)
    · exact absurd ‹_› (by decide)
    · refine jk_aload_n (q := 25) dJ5_append_3fe6f_24 rfl rfl ?_
      refine jk_getA (q := 28) (k := 14) 0 0 rfl (by first | exact hu1 | exact hu2 | assumption) (by exact hu3) rfl rfl jw_360 dJ5_append_3fe6f_25 rfl ?_
      refine jk_aload_n (q := 29) dJ5_append_3fe6f_28 rfl rfl ?_
      refine jk_dup (q := 30) dJ5_append_3fe6f_29 rfl rfl ?_
      refine jk_getIR (q := 33) (k := 14) 3 3 rfl (by first | exact hu1 | exact hu2 | assumption) (by first | exact jk_row_ne _ _ (by omega) | rfl) rfl rfl jw_364 dJ5_append_3fe6f_30 rfl ?_
      rw [hct]
      refine jk_dup_x1 (q := 34) dJ5_append_3fe6f_33 rfl rfl rfl ?_
      refine jk_iconst (q := 35) dJ5_append_3fe6f_34 rfl ?_
      refine jk_iadd (q := 36) dJ5_append_3fe6f_35 rfl ?_
      refine jk_putIR (q := 39) (k := 14) 3 3 rfl (by first | exact hu1 | exact hu2 | assumption) (by first | exact jk_row_ne _ _ (by omega) | rfl) rfl rfl rfl jw_364 dJ5_append_3fe6f_36 rfl ?_
      refine jk_iload_n (q := 40) dJ5_append_3fe6f_39 rfl rfl ?_
      refine jk_i2b (q := 41) (by first | assumption | decide | omega | exact jB_01 _ | exact jB_in _ | exact ⟨by omega, by omega⟩) dJ5_append_3fe6f_40 rfl ?_
      refine jk_bastR (q := 42) (by first | exact hu1 | exact hu2 | assumption) (by first | exact jk_row_ne _ _ (by omega) | rfl) (by first | assumption | decide | omega | exact jB_01 _ | exact jB_in _ | exact ⟨by omega, by omega⟩) (by first | assumption | decide | omega | exact jB_01 _ | exact jB_in _ | exact ⟨by omega, by omega⟩) dJ5_append_3fe6f_41 rfl ?_
      refine jk_goto (q := 75) dJ5_append_3fe6f_42 rfl ?_
      refine jk_aload_n (q := 76) dJ5_append_3fe6f_75 rfl rfl ?_
      exact jk_aret rfl (by first | exact Or.inl ⟨_, rfl⟩ | exact Or.inr ⟨_, rfl⟩) dJ5_append_3fe6f_76 (by exact ⟨rfl, w, K1, bd_app hbd1 hc (by omega), Nat.zero_le _, bd_frW hfr (fun a h1 h2 => by rw [jk_row_ne _ _ h2, jk_row_ne _ _ h1])⟩)
theorem c_J4_append_cf468 {G : jk_G} {n : Nat} {t : jk_T} {σ : jk_I} {ρ : jk_P} {b v K : Nat} {L : List Int}{c : Int} (hbd : bd_is t ρ σ b v K L) (hz : zz_ok G) (hzp : zp_ok G) (hb : b < n) (hv : v < n) (hc : 0 ≤ c ∧ c < 128) (hl : L.length + 1 ≤ 34) : jk_K G yJ4_append_cf468 mJ4_append_cf468 1 34 [.ref b, jI c] n t σ ρ (bd_Q (some (.ref b)) b v n t σ ρ (L ++ [c]) 0) jk_no := by
  obtain ⟨⟨hu1, hu2, hu3, hu4, hu5, hu6⟩, hK2, hct, hLK, hby, hel⟩ := id hbd
  refine jk_entryB (ls := [some (.ref b), some (jI c)]) jm_J4_append_cf468.1 rfl rfl rfl ?_
  refine jk_aload_n (q := 1) dJ4_append_cf468_0 rfl rfl ?_
  refine jk_iload_n (q := 2) dJ4_append_cf468_1 rfl rfl ?_
  refine jk_callSU (q := 5) (k := 14) (As := [jI c]) (c_J5_append_3fe6f hbd hz hzp hb hv hc hl) jm_J5_append_3fe6f.1 (by decide) jm_J5_append_3fe6f.2 jw_1755 jw_373 jw_1475 (by first | exact hu1 | exact hu2 | assumption) rfl rfl rfl (by decide) (by decide) rfl dJ4_append_cf468_2 rfl (fun v' n' t' σ' ρ' hq => ?_) (fun _ _ _ _ _ h => h.elim)
  obtain ⟨rfl, hq⟩ := hq
  simp only [Option.toList_some, Option.toList_none, List.cons_append, List.nil_append]
  refine jk_pop (q := 6) dJ4_append_cf468_5 rfl rfl ?_
  refine jk_aload_n (q := 7) dJ4_append_cf468_6 rfl rfl ?_
  exact jk_aret rfl (by first | exact Or.inl ⟨_, rfl⟩ | exact Or.inr ⟨_, rfl⟩) dJ4_append_cf468_7 (by exact ⟨rfl, hq⟩)
theorem c_J5_charAt_5068e {G : jk_G} {n : Nat} {t : jk_T} {σ : jk_I} {ρ : jk_P} {b v K : Nat} {L : List Int}{i : Int} (hbd : bd_is t ρ σ b v K L) (hv : zv_ok G) (hi : 0 ≤ i ∧ i < (L.length : Int)) : jk_K G yJ5_charAt_5068e mJ5_charAt_5068e 0 0 [.ref b, jI i] n t σ ρ (jk_q (some (jI (L.getD i.toNat 0))) n t σ ρ) jk_no := by
  obtain ⟨⟨hu1, hu2, hu3, hu4, hu5, hu6⟩, hK2, hct, hLK, hby, hel⟩ := id hbd
  have hei := hel i.toNat (by omega)
  rw [show ((i.toNat : Nat) : Int) = i by omega] at hei
  have hbi := hby i ⟨by omega, by omega⟩
  refine jk_entryB (ls := [some (.ref b), some (jI i), none, none, none]) jm_J5_charAt_5068e.1 rfl rfl rfl ?_
  refine jk_aload_n (q := 1) dJ5_charAt_5068e_0 rfl rfl ?_
  refine jk_getIR (q := 4) (k := 14) 1 1 rfl (by first | exact hu1 | exact hu2 | assumption) (by first | exact jk_row_same _ _ _ | ((repeat rewrite [jk_row_ne _ _ (by omega)]); first | exact jk_row_same _ _ _ | rfl)) rfl rfl jw_361 dJ5_charAt_5068e_1 rfl ?_
  rw [hu4]
  refine jk_istore2 (q := 5) dJ5_charAt_5068e_4 rfl rfl rfl ?_
  refine jk_aload_n (q := 6) dJ5_charAt_5068e_5 rfl rfl ?_
  refine jk_getA (q := 9) (k := 14) 0 0 rfl (by first | exact hu1 | exact hu2 | assumption) (by exact hu3) rfl rfl jw_360 dJ5_charAt_5068e_6 rfl ?_
  refine jk_astore3 (q := 10) dJ5_charAt_5068e_9 rfl rfl rfl ?_
  refine jk_aload_n (q := 11) dJ5_charAt_5068e_10 rfl rfl ?_
  refine jk_getIR (q := 14) (k := 14) 3 3 rfl (by first | exact hu1 | exact hu2 | assumption) (by first | exact jk_row_same _ _ _ | ((repeat rewrite [jk_row_ne _ _ (by omega)]); first | exact jk_row_same _ _ _ | rfl)) rfl rfl jw_364 dJ5_charAt_5068e_11 rfl ?_
  rw [hct]
  refine jk_aload_n (q := 15) dJ5_charAt_5068e_14 rfl rfl ?_
  refine jk_alen (q := 16) (by first | exact hu1 | exact hu2 | assumption) dJ5_charAt_5068e_15 rfl ?_
  refine jk_iload_n (q := 17) dJ5_charAt_5068e_16 rfl rfl ?_
  refine jk_ishr0 (q := 18) dJ5_charAt_5068e_17 rfl ?_
  refine jk_mmin (q := 21) jw_1701 rfl rfl (by first | assumption | decide | omega | exact jB_01 _ | exact jB_in _ | exact ⟨by omega, by omega⟩ | (split <;> first | omega | exact ⟨by omega, by omega⟩)) (by first | assumption | decide | omega | exact jB_01 _ | exact jB_in _ | exact ⟨by omega, by omega⟩ | (split <;> first | omega | exact ⟨by omega, by omega⟩)) dJ5_charAt_5068e_18 rfl ?_
  refine jk_istore4 (q := 23) dJ5_charAt_5068e_21 rfl rfl rfl ?_
  refine jk_iload_n (q := 24) dJ5_charAt_5068e_23 rfl rfl ?_
  refine jk_iload (q := 26) dJ5_charAt_5068e_24 rfl rfl ?_
  refine jk_cS2v (q := 29) (c_J0_checkIndex hv (by split <;> omega) (by split <;> omega)) jm_J0_checkIndex_df160 jw_1702 rfl rfl rfl dJ5_charAt_5068e_26 rfl ?_
  refine jk_iload_n (q := 30) dJ5_charAt_5068e_29 rfl rfl ?_
  refine jk_ifN_ne (q := 33) (by decide) (by decide) dJ5_charAt_5068e_30 rfl rfl ?_
  refine jk_aload_n (q := 34) dJ5_charAt_5068e_33 rfl rfl ?_
  refine jk_iload_n (q := 35) dJ5_charAt_5068e_34 rfl rfl ?_
  refine jk_baldR (q := 36) (by first | exact hu1 | exact hu2 | assumption) (by first | exact jk_row_same _ _ _ | ((repeat rewrite [jk_row_ne _ _ (by omega)]); first | exact jk_row_same _ _ _ | rfl)) (by first | assumption | decide | omega | exact jB_01 _ | exact jB_in _ | exact ⟨by omega, by omega⟩ | (split <;> first | omega | exact ⟨by omega, by omega⟩)) dJ5_charAt_5068e_35 rfl ?_
  refine jk_sipush (q := 39) (y := 255) dJ5_charAt_5068e_36 rfl (by decide) ?_
  refine jk_iand255 (q := 40) dJ5_charAt_5068e_39 rfl (by first | assumption | decide | omega | exact jB_01 _ | exact jB_in _ | exact ⟨by omega, by omega⟩ | (split <;> first | omega | exact ⟨by omega, by omega⟩)) ?_
  refine jk_i2c (q := 41) (by first | assumption | decide | omega | exact jB_01 _ | exact jB_in _ | exact ⟨by omega, by omega⟩ | (split <;> first | omega | exact ⟨by omega, by omega⟩)) dJ5_charAt_5068e_40 rfl ?_
  exact jk_cret rfl (by first | assumption | decide | omega | exact jB_01 _ | exact jB_in _ | exact ⟨by omega, by omega⟩ | (split <;> first | omega | exact ⟨by omega, by omega⟩)) dJ5_charAt_5068e_41 (by rw [show σ v i % 256 = σ v i by omega, hei]; exact jk_qr)
theorem c_J4_charAt_5068e {G : jk_G} {n : Nat} {t : jk_T} {σ : jk_I} {ρ : jk_P} {b v K : Nat} {L : List Int}{i : Int} (hbd : bd_is t ρ σ b v K L) (hv : zv_ok G) (hi : 0 ≤ i ∧ i < (L.length : Int)) : jk_K G yJ4_charAt_5068e mJ4_charAt_5068e 0 0 [.ref b, jI i] n t σ ρ (jk_q (some (jI (L.getD i.toNat 0))) n t σ ρ) jk_no := by
  obtain ⟨⟨hu1, hu2, hu3, hu4, hu5, hu6⟩, hK2, hct, hLK, hby, hel⟩ := id hbd
  have hei := hel i.toNat (by omega)
  rw [show ((i.toNat : Nat) : Int) = i by omega] at hei
  have hbi := hby i ⟨by omega, by omega⟩
  rw [hei] at hbi
  refine jk_entryB (ls := [some (.ref b), some (jI i)]) jm_J4_charAt_5068e.1 rfl rfl rfl ?_
  refine jk_aload_n (q := 1) dJ4_charAt_5068e_0 rfl rfl ?_
  refine jk_iload_n (q := 2) dJ4_charAt_5068e_1 rfl rfl ?_
  refine jk_callSU (q := 5) (k := 14) (As := [jI i]) (c_J5_charAt_5068e hbd hv hi) jm_J5_charAt_5068e.1 (by decide) jm_J5_charAt_5068e.2 jw_1757 jw_373 jw_1698 (by first | exact hu1 | exact hu2 | assumption) rfl rfl rfl (Nat.zero_le _) (Nat.zero_le _) rfl dJ4_charAt_5068e_2 rfl (fun v' n' t' σ' ρ' hq => ?_) (fun _ _ _ _ _ h => h.elim)
  obtain ⟨rfl, hn9, ht9, hs9, hr9⟩ := hq
  replace hn9 := hn9.symm; replace ht9 := ht9.symm; replace hs9 := hs9.symm; replace hr9 := hr9.symm; subst hn9 ht9 hs9 hr9
  simp only [Option.toList_some, Option.toList_none, List.cons_append, List.nil_append, Nat.sub_zero]
  exact jk_cret rfl (by first | assumption | decide | omega | exact jB_01 _ | exact jB_in _ | exact ⟨by omega, by omega⟩) dJ4_charAt_5068e_5 (by first | exact jk_qr | (refine jk_qT ?_; grind) | (refine jk_qF ?_; grind) | (refine jk_qI ?_; grind))
end B1
