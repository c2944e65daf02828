section PD
section PDJ
variable {G : jk_G} {M : jk_M} {pc q : Nat} {ls : List (Option Value)} {st : List Value} {n : Nat} {t : jk_T} {σ : jk_I} {ρ : jk_P} {rc rs : Nat} {Q : jk_Q} {X : jk_X}
theorem jk_room {rc' rs' : Nat} (k : jk_J G M pc ls st n t σ ρ rc rs Q X) (h1 : rc ≤ rc') (h2 : rs ≤ rs') : jk_J G M pc ls st n t σ ρ rc' rs' Q X :=
  fun p e R s m args below meth c H locs cells slots ls' C hl hR hS hc hs => k p e R s m args below meth c H locs cells slots ls' C hl hR hS (by omega) (by omega)
def jk_and (x y : Int) : Int := (Int32.ofInt x &&& Int32.ofInt y).toInt
def jk_sr (x y : Int) : Int := (Int32.ofInt x >>> (Int32.ofInt y &&& 31)).toInt
def jk_rm (x y : Int) : Int := x - x.tdiv y * y
theorem jk_i32 (x : Int32) : jk_in x.toInt := ⟨Int32.le_toInt x, by have := Int32.toInt_lt x; omega⟩
theorem jk_and_in (x y : Int) : jk_in (jk_and x y) := jk_i32 _
theorem jk_sr_in (x y : Int) : jk_in (jk_sr x y) := jk_i32 _
theorem jk_and3 (x : Int) : 0 ≤ jk_and x 3 ∧ jk_and x 3 ≤ 3 := by
  obtain ⟨j, hj, ej⟩ := pk_andE (Int32.ofInt x) (m := Int32.ofInt 3) 2 (by decide)
  unfold jk_and
  rw [ej, show nI j = Int32.ofInt (j : Int) from (Int32.ofInt_eq_ofNat (n := j)).symm, jk_ti ⟨by omega, by have : j < 4 := hj; omega⟩]
  have : j < 4 := hj
  omega
theorem jk_and7 (x : Int) : 0 ≤ jk_and x 7 ∧ jk_and x 7 ≤ 7 := by
  obtain ⟨j, hj, ej⟩ := pk_andE (Int32.ofInt x) (m := Int32.ofInt 7) 3 (by decide)
  unfold jk_and
  rw [ej, show nI j = Int32.ofInt (j : Int) from (Int32.ofInt_eq_ofNat (n := j)).symm, jk_ti ⟨by omega, by have : j < 8 := hj; omega⟩]
  have : j < 8 := hj
  omega
theorem jk_iandZ {x y : Int} (hd : decode (jk_cc M) pc = .ok (.iand, 1)) (hp : pc + 1 = q) (k : jk_J G M q ls (jI (jk_and x y) :: st) n t σ ρ rc rs Q X) : jk_J G M pc ls (jI y :: jI x :: st) n t σ ρ rc rs Q X := by
  subst hp
  have e9 : Int32.ofInt (jk_and x y) = Int32.ofInt x &&& Int32.ofInt y := Int32.ofInt_toInt _
  exact jk_pure (fun p e R s m args below meth c H locs cells slots ls' Qf hx hb kk => lv_iand hx hb hd (by rw [← e9]; exact kk)) k
theorem jk_ishrZ {x y : Int} (hd : decode (jk_cc M) pc = .ok (.ishr, 1)) (hp : pc + 1 = q) (k : jk_J G M q ls (jI (jk_sr x y) :: st) n t σ ρ rc rs Q X) : jk_J G M pc ls (jI y :: jI x :: st) n t σ ρ rc rs Q X := by
  subst hp
  have e9 : Int32.ofInt (jk_sr x y) = Int32.ofInt x >>> (Int32.ofInt y &&& 31) := Int32.ofInt_toInt _
  exact jk_pure (fun p e R s m args below meth c H locs cells slots ls' Qf hx hb kk => lv_ishr hx hb hd (by rw [← e9]; exact kk)) k
/-- the handler that takes a throw of the class E at pc; entries ahead of it cover other places, or are of other classes -/
def jk_hnd2 (G : jk_G) (M : jk_M) (pc : Nat) (E : String) (K : Nat → Prop) : Prop := ∃ (pre : List ExceptionTableEntry) (x : ExceptionTableEntry) (suf : List ExceptionTableEntry) (name : String), jk_tb M = pre ++ x :: suf ∧
  (∀ z ∈ pre, covers z pc = false ∨ (z.catchType ≠ 0 ∧ ∃ nm : String, Cond.classLink (jk_own M) z.catchType nm ∈ jk_WS ∧ ∀ s, jk_Z G s → va_Nc E nm s)) ∧ covers x pc = true ∧ x.catchType ≠ 0 ∧ Cond.classLink (jk_own M) x.catchType name ∈ jk_WS ∧ Cond.castable E name ∈ jk_WS ∧ K x.handlerPc
theorem jk_behindC2 {p : Program} {e : Env} {R : Room} {s : State} {m : MethodId} {args : Array Value} {below : List Frame} {meth : Method} {c : Code} {H : Heap} {locs : List Loc} {cells slots : Nat} {ls' : Array Slot} {mc ms rc' rs' : Nat} {st0 : List Value} {rest : List Value} {Q1 : jk_Q} {X1 : jk_X} {a : Array Value}
    (hr : vx_Run p (jk_l G) e R s m args below meth c H locs cells slots mc ms (F0 m pc ls' st0) (rest.map (jk_re G)) (jk_QC G Q1 a) (jk_XC G X1) (jk_A G))
    (C : jk_C G M p R s m args meth c) (hl : jk_L G (jk_nL M) ls ls') (hS : va_S (jk_A G) s.heap H locs) (hc : cells + mc + rc' ≤ R.cells) (hs : slots + ms + rs' ≤ R.slots)
    (kk : ∀ v n' t' σ' ρ', Q1 v n' t' σ' ρ' → jk_J G M (pc + 3) ls (v.toList ++ rest) n' t' σ' ρ' rc' rs' Q X) (kx : ∀ E n' t' σ' ρ', X1 E n' t' σ' ρ' → jk_hnd2 G M pc E (fun h => ∀ a, jk_J G M h ls [.ref a] n' t' σ' ρ' rc' rs' Q X)) :
    W p (jk_l G) e R s m args below meth c H locs cells slots (vx_MQ below (jk_QC G Q) (jk_XC G X) args s R.cells R.slots (jk_A G)) (F0 m pc ls' st0) := by
  intro T hT Xs
  rcases hr T hT Xs with ⟨v, st₀, t0, T', L, h0, X', hL, e1, e2, ⟨v', n', t', σ', ρ', hv, hQ, hR', hF⟩, stp⟩ | ⟨q0, st₀, t0, T', L, E, ce, h0, X', hL, e1, e2, ⟨n', t', σ', ρ', hX, hR', hF⟩, hce, hcv, hcl, stp⟩
  · cases hv
    obtain ⟨k1, k2, k3⟩ := vx_keep h0 e1 hS (fun _ _ h => h) (fun _ h => h) hL hF
    have ha : t0.vm.Alike s.vm := by rw [← e2]; exact (X'.warmed.alike).symm
    have hR2 : jk_R G s T'.heap n' t' σ' ρ' := by rw [e1]; exact jk_R_moved ha hR'
    obtain ⟨t2, a1, b1⟩ := kk v' n' t' σ' ρ' hQ p e R s m args below meth c T'.heap (locs ++ L) (cells + mc) (slots + ms) ls' C hl hR2 k3 hc hs T' rfl X'
    refine ⟨t2, stp t2 ?_, b1⟩
    have e3 : (v'.map (jk_re G)).toList ++ rest.map (jk_re G) = (v'.toList ++ rest).map (jk_re G) := by cases v' <;> simp
    show Steps p.tables e below (T'.setTop { F0 m pc ls' st0 with pc := pc + 3, stack := (v'.map (jk_re G)).toList ++ rest.map (jk_re G) }) t2
    rw [e3]
    exact a1
  · obtain ⟨k1, k2, k3⟩ := vx_keep h0 e1 hS (fun _ _ h => h) (fun _ h => h) hL hF
    have ha : t0.vm.Alike s.vm := by rw [← e2]; exact (X'.warmed.alike).symm
    have hR2 : jk_R G s T'.heap n' t' σ' ρ' := by rw [e1]; exact jk_R_moved ha hR'
    obtain ⟨pre, x, suf, name, g1, g2, g3, g4, g5, g6, g7⟩ := kx E n' t' σ' ρ' hX
    have hts := C.2.2.2.2.2.2.1
    have hZ := C.2.2.2.2.2.2.2.2.2.2.2.2.1
    have hk := g7 (2 * q0 + 65) p e R s m args below meth c T'.heap (locs ++ L) (cells + mc) (slots + ms) ls' C hl hR2 k3 hc hs
    rw [show ([Value.ref (2 * q0 + 65)].map (jk_re G)) = [Value.ref q0] by show [Value.ref (jk_ad G (2 * q0 + 65))] = _; rw [jk_adx]] at hk
    obtain ⟨t2, a1, b1⟩ := vx_catch (rest := rest.map (jk_re G)) (pc := pc) (own := jk_own M) (name := name) (E := E) (ce := ce) (q := q0) C.2.2.2.2.2.1 pre x suf (by rw [C.2.2.2.2.2.2.2.1]; exact g1) (fun z hz => by
      rcases g2 z hz with h1 | ⟨h1, nm, h2, h3⟩
      · exact Or.inl h1
      · exact Or.inr ⟨h1, nm, hts _ h2, h3 s hZ⟩) g3 g4 (hts _ g5) (hts _ g6) (by rw [e1]; exact hce) hcv hcl hk T' rfl X'
    exact ⟨t2, stp.trans a1, b1⟩
theorem jk_callVC2 {y : MethodName} {M1 : jk_M} {mc ms index na : Nat} {b k : Nat} {As rest : List Value} {Q1 : jk_Q} {X1 : jk_X} (hK : jk_K G y M1 mc ms (.ref b :: As) n t σ ρ Q1 X1) (hm : jk_mV y M1 na) (hw : Cond.methodLink (jk_own M) index y ∈ jk_WS) (hcl : (jk_cl k).1 = y.cls) (ht : t b = some (.inr k)) (hna : As.length = na) (hdep : Nat.ble (jk_d M1 + 1) (jk_d M) = true) (hlen : Nat.ble rest.length 4 = true) (hmc : mc ≤ rc) (hms : ms ≤ rs)
    (hd : decode (jk_cc M) pc = .ok (.invokevirtual index, 3)) (hp : pc + 3 = q) (kk : ∀ v n' t' σ' ρ', Q1 v n' t' σ' ρ' → jk_J G M q ls (v.toList ++ rest) n' t' σ' ρ' (rc - mc) (rs - ms) Q X) (kx : ∀ E n' t' σ' ρ', X1 E n' t' σ' ρ' → jk_hnd2 G M pc E (fun h => ∀ a, jk_J G M h ls [.ref a] n' t' σ' ρ' (rc - mc) (rs - ms) Q X)) : jk_J G M pc ls (As.reverse ++ .ref b :: rest) n t σ ρ rc rs Q X := by
  subst hp
  intro p e R s m args below meth c H locs cells slots ls' C hl hR hS hc hs
  have hdep := Nat.le_of_ble_eq_true hdep
  have hlen := Nat.le_of_ble_eq_true hlen
  have hts := C.2.2.2.2.2.2.1
  have hok := C.2.2.2.2.2.2.2.2.2.2.2.1
  have hZ := C.2.2.2.2.2.2.2.2.2.2.2.2.1
  have hb0 := C.2.2.2.2.2.2.2.2.2.2.2.2.2
  refine jk_behindC2 (M := M) (mc := mc) (ms := ms) (rc' := rc - mc) (rs' := rs - ms) (rest := rest) (Q1 := Q1) (X1 := X1) (vx_runV (As := As.map (jk_re G)) (C := (jk_cl k).1) (own := jk_own M) (cc := jk_cc M) (nL := jk_nL M) (Ts := jk_WS) (n := na) ⟨C.1, C.2.1, C.2.2.1, C.2.2.2.2.2.1, hts⟩ hK ⟨jk_callB C hm.1 hw hdep, hts _ hm.2.1, by rw [hcl]; exact hts _ hm.2.2⟩ ⟨jk_blind, jk_recv hR ht, fun U hU hW => ⟨rfl, hok, jk_Zat hok hZ hb0 hS hU hW, by rw [hU]; exact Nat.le_trans hb0 hS.1, by rw [hU]; exact jk_R_moved hW.alike hR⟩⟩ rfl (by rw [List.length_map]; exact hna) (jk_fsz hl) (by simp [F0, jk_re]) ?_ hd ⟨by omega, by omega⟩) C hl hS (by omega) (by omega) kk kx
  exact lv_room (Nat.le_trans (jk_catsum rest) (by omega))
end PDJ
/-- more throws that are told apart -/
def zn2_ok (G : jk_G) : Prop := ∀ s, jk_Z G s → va_Nc "java/lang/UnsupportedOperationException" "java/lang/IllegalArgumentException" s ∧ va_Nc "java/lang/UnsupportedOperationException" "java/lang/IllegalStateException" s ∧ va_Nc "java/util/NoSuchElementException" "java/lang/IllegalStateException" s ∧ va_Nc "java/util/NoSuchElementException" "java/lang/UnsupportedOperationException" s
/-- the script, as the launch has laid it -/
def zq_ok (G : jk_G) (L : Nat) (f : Nat → Int) : Prop := (L ≤ 260 ∧ ∀ j, jk_in (f j)) ∧ ∀ s, jk_Z G s → va_T .int (jk_ad G 63) L (fun j => jI (f j)) (jk_A G) s s.heap
def fA (L : Nat) (f : Nat → Int) (k : Int) : Int := if k < (L : Int) then f k.toNat else 0
abbrev mL_at : jk_M := ("LevelingNetworkLaw", cL_at, 2, (some FieldType.int), [], false, 1)
theorem jm_L_at : jk_mS yL_at mL_at 2 := ⟨⟨jw_1595, jw_0, ⟨by decide +kernel, by decide +kernel⟩, by decide +kernel, by decide +kernel, rfl, by decide, fun h => absurd h (by decide), rfl⟩, jw_1594⟩
abbrev mL_put : jk_M := ("LevelingNetworkLaw", cL_put, 3, none, [], false, 34)
theorem jm_L_put : jk_mS yL_put mL_put 2 := ⟨⟨jw_1598, jw_0, ⟨by decide +kernel, by decide +kernel⟩, by decide +kernel, by decide +kernel, rfl, by decide, fun h => absurd h (by decide), rfl⟩, jw_1597⟩
def hh_L_line : List (Nat × Nat × Nat × Nat) := [(0, 9, 10, 57), (0, 9, 15, 60), (0, 9, 20, 63)]
abbrev mL_line : jk_M := ("LevelingNetworkLaw", cL_line, 6, (some FieldType.int), tableOf hh_L_line, false, 34)
theorem jm_L_line : jk_mH yL_line mL_line hh_L_line 5 := ⟨⟨jw_1643, jw_0, ⟨by decide +kernel, by decide +kernel⟩, by decide +kernel, by decide +kernel, rfl, by decide, fun h => absurd h (by decide), rfl⟩, jw_1642⟩
def hh_L_act : List (Nat × Nat × Nat × Nat) := [(0, 116, 268, 57), (117, 123, 268, 57), (124, 129, 268, 57), (130, 136, 268, 57), (137, 142, 268, 57), (143, 148, 268, 57), (149, 154, 268, 57), (155, 160, 268, 57), (161, 169, 268, 57), (170, 175, 268, 57), (176, 181, 268, 57), (182, 187, 268, 57), (188, 193, 268, 57), (194, 199, 268, 57), (200, 206, 268, 57), (207, 212, 268, 57), (213, 218, 268, 57), (219, 224, 268, 57), (225, 230, 268, 57), (231, 236, 268, 57), (237, 242, 268, 57), (243, 248, 268, 57), (249, 254, 268, 57), (255, 261, 268, 57), (262, 267, 268, 57), (0, 116, 273, 60), (117, 123, 273, 60), (124, 129, 273, 60), (130, 136, 273, 60), (137, 142, 273, 60), (143, 148, 273, 60), (149, 154, 273, 60), (155, 160, 273, 60), (161, 169, 273, 60), (170, 175, 273, 60), (176, 181, 273, 60), (182, 187, 273, 60), (188, 193, 273, 60), (194, 199, 273, 60), (200, 206, 273, 60), (207, 212, 273, 60), (213, 218, 273, 60), (219, 224, 273, 60), (225, 230, 273, 60), (231, 236, 273, 60), (237, 242, 273, 60), (243, 248, 273, 60), (249, 254, 273, 60), (255, 261, 273, 60), (262, 267, 273, 60), (0, 116, 278, 63), (117, 123, 278, 63), (124, 129, 278, 63), (130, 136, 278, 63), (137, 142, 278, 63), (143, 148, 278, 63), (149, 154, 278, 63), (155, 160, 278, 63), (161, 169, 278, 63), (170, 175, 278, 63), (176, 181, 278, 63), (182, 187, 278, 63), (188, 193, 278, 63), (194, 199, 278, 63), (200, 206, 278, 63), (207, 212, 278, 63), (213, 218, 278, 63), (219, 224, 278, 63), (225, 230, 278, 63), (231, 236, 278, 63), (237, 242, 278, 63), (243, 248, 278, 63), (249, 254, 278, 63), (255, 261, 278, 63), (262, 267, 278, 63), (0, 116, 283, 142), (117, 123, 283, 142), (124, 129, 283, 142), (130, 136, 283, 142), (137, 142, 283, 142), (143, 148, 283, 142), (149, 154, 283, 142), (155, 160, 283, 142), (161, 169, 283, 142), (170, 175, 283, 142), (176, 181, 283, 142), (182, 187, 283, 142), (188, 193, 283, 142), (194, 199, 283, 142), (200, 206, 283, 142), (207, 212, 283, 142), (213, 218, 283, 142), (219, 224, 283, 142), (225, 230, 283, 142), (231, 236, 283, 142), (237, 242, 283, 142), (243, 248, 283, 142), (249, 254, 283, 142), (255, 261, 283, 142), (262, 267, 283, 142), (0, 116, 288, 145), (117, 123, 288, 145), (124, 129, 288, 145), (130, 136, 288, 145), (137, 142, 288, 145), (143, 148, 288, 145), (149, 154, 288, 145), (155, 160, 288, 145), (161, 169, 288, 145), (170, 175, 288, 145), (176, 181, 288, 145), (182, 187, 288, 145), (188, 193, 288, 145), (194, 199, 288, 145), (200, 206, 288, 145), (207, 212, 288, 145), (213, 218, 288, 145), (219, 224, 288, 145), (225, 230, 288, 145), (231, 236, 288, 145), (237, 242, 288, 145), (243, 248, 288, 145), (249, 254, 288, 145), (255, 261, 288, 145), (262, 267, 288, 145)]
abbrev mL_act : jk_M := ("LevelingNetworkLaw", cL_act, 6, (some FieldType.int), tableOf hh_L_act, false, 34)
theorem jm_L_act : jk_mH yL_act mL_act hh_L_act 5 := ⟨⟨jw_1616, jw_0, ⟨by decide +kernel, by decide +kernel⟩, by decide +kernel, by decide +kernel, rfl, by decide, fun h => absurd h (by decide), rfl⟩, jw_1615⟩
def hh_L_runs : List (Nat × Nat × Nat × Nat) := [(0, 4, 5, 60), (0, 4, 8, 63)]
abbrev mL_runs : jk_M := ("LevelingNetworkLaw", cL_runs, 2, (some FieldType.int), tableOf hh_L_runs, false, 34)
theorem jm_L_runs : jk_mH yL_runs mL_runs hh_L_runs 1 := ⟨⟨jw_1706, jw_0, ⟨by decide +kernel, by decide +kernel⟩, by decide +kernel, by decide +kernel, rfl, by decide, fun h => absurd h (by decide), rfl⟩, jw_1705⟩
abbrev mL_isLine : jk_M := ("LevelingNetworkLaw", cL_isLine, 4, (some FieldType.boolean), [], false, 34)
theorem jm_L_isLine : jk_mS yL_isLine mL_isLine 3 := ⟨⟨jw_1688, jw_0, ⟨by decide +kernel, by decide +kernel⟩, by decide +kernel, by decide +kernel, rfl, by decide, fun h => absurd h (by decide), rfl⟩, jw_1687⟩
abbrev mL_state : jk_M := ("LevelingNetworkLaw", cL_state, 4, (some FieldType.int), [], false, 36)
theorem jm_L_state : jk_mS yL_state mL_state 1 := ⟨⟨jw_1657, jw_0, ⟨by decide +kernel, by decide +kernel⟩, by decide +kernel, by decide +kernel, rfl, by decide, fun h => absurd h (by decide), rfl⟩, jw_1656⟩
abbrev mL_build : jk_M := ("LevelingNetworkLaw", cL_build, 10, (some (FieldType.object "LevelingNetwork")), [], false, 36)
theorem jm_L_build : jk_mS yL_build mL_build 1 := ⟨⟨jw_1613, jw_0, ⟨by decide +kernel, by decide +kernel⟩, by decide +kernel, by decide +kernel, rfl, by decide, fun h => absurd h (by decide), rfl⟩, jw_1612⟩
abbrev mL_fails : jk_M := ("LevelingNetworkLaw", cL_fails, 3, (some FieldType.boolean), [], false, 36)
theorem jm_L_fails : jk_mS yL_fails mL_fails 3 := ⟨⟨jw_1709, jw_0, ⟨by decide +kernel, by decide +kernel⟩, by decide +kernel, by decide +kernel, rfl, by decide, fun h => absurd h (by decide), rfl⟩, jw_1708⟩
theorem c_at {G : jk_G} {n : Nat} {t : jk_T} {σ : jk_I} {ρ : jk_P} {L : Nat} {f : Nat → Int} {k : Int} (hq : zq_ok G L f) (hk : 0 ≤ k ∧ k < 1000) : jk_K G yL_at mL_at 0 0 [.ref 63, jI k] n t σ ρ (jk_q (some (jI (fA L f k))) n t σ ρ) jk_no := by
  have hL := hq.1.1
  refine jk_entryB (ls := [some (.ref 63), some (jI k)]) jm_L_at.1 rfl rfl rfl ?_
  refine jk_iload_n (q := 1) dL_at_0 rfl rfl ?_
  refine jk_aload_n (q := 2) dL_at_1 rfl rfl ?_
  refine jk_tlen (q := 3) hq.2 dL_at_2 rfl ?_
  refine jk_icmp_ge (q := 12) (q2 := 6) dL_at_3 rfl rfl ⟨by omega, by omega⟩ ⟨by omega, by omega⟩ (fun h => ?_) (fun h => ?_)
  · refine jk_iconst (q := 13) dL_at_12 rfl ?_
    exact jk_iret rfl dL_at_13 (jk_qI (if_neg (by omega)).symm)
  · refine jk_aload_n (q := 7) dL_at_6 rfl rfl ?_
    refine jk_iload_n (q := 8) dL_at_7 rfl rfl ?_
    refine jk_tabs (q := 9) hq.2 (by omega) ⟨by omega, by omega⟩ dL_at_8 rfl ?_
    refine jk_goto (q := 13) dL_at_9 rfl ?_
    exact jk_iret rfl dL_at_13 (jk_qI (if_pos (by omega)).symm)
theorem fA_in {L : Nat} {f : Nat → Int} (h : ∀ j, jk_in (f j)) (k : Int) : jk_in (fA L f k) := by
  unfold fA; split
  · exact h _
  · exact ⟨by decide, by decide⟩
/-- the number of a throw -/
def ac_c (E : String) : Int := if E = "java/lang/IndexOutOfBoundsException" then -200001 else if E = "java/lang/IllegalArgumentException" then -200002 else if E = "java/lang/IllegalStateException" then -200003 else if E = "java/lang/UnsupportedOperationException" then -200004 else -200005
def ac_ex (E : String) : Prop := E = "java/lang/IndexOutOfBoundsException" ∨ E = "java/lang/IllegalArgumentException" ∨ E = "java/lang/IllegalStateException" ∨ E = "java/lang/UnsupportedOperationException" ∨ E = "java/util/NoSuchElementException"
def ac_Q (Q1 : jk_Q) (X1 : jk_X) : jk_Q := fun v' n' t' σ' ρ' => Q1 v' n' t' σ' ρ' ∨ ∃ E, X1 E n' t' σ' ρ' ∧ v' = some (jI (ac_c E))
theorem w_act_0 {G : jk_G} {n : Nat} {t : jk_T} {σ : jk_I} {ρ : jk_P} {x mc ms : Nat} {a b c : Int} {Q1 : jk_Q} {X1 : jk_X} (hzn : zn_ok G) (hzn2 : zn2_ok G) (hx : t x = some (.inr 12)) (K : jk_K G yX12_addBenchmark mX12_addBenchmark mc ms [.ref x] n t σ ρ Q1 X1) (hQ : ∀ v' n' t' σ' ρ', Q1 v' n' t' σ' ρ' → ∃ v, v' = some (jI v)) (hX : ∀ E n' t' σ' ρ', X1 E n' t' σ' ρ' → E = "java/lang/IllegalStateException") : jk_KH G yL_act mL_act hh_L_act mc ms [.ref x, jI 0, jI a, jI b, jI c] n t σ ρ (ac_Q Q1 X1) jk_no := by
  refine jk_entryH (ls := [some (.ref x), some (jI 0), some (jI a), some (jI b), some (jI c), none]) jm_L_act rfl rfl rfl ?_
  refine jk_iload_n (q := 1) dL_act_0 rfl rfl ?_
  refine jk_tswIn (q := 112) (by decide) dL_act_1 (by decide) rfl rfl ?_
  refine jk_aload_n (q := 113) dL_act_112 rfl rfl ?_
  refine jk_callVC2 (q := 116) (k := 12) (As := []) (rest := []) K jm_X12_addBenchmark jw_421 rfl hx rfl rfl rfl (Nat.le_refl _) (Nat.le_refl _) dL_act_113 rfl (fun v' n' t' σ' ρ' hq => ?_) (fun E n' t' σ' ρ' hx9 => ?_)
  · obtain ⟨v, rfl⟩ := hQ _ _ _ _ _ hq
    simp only [Option.toList_some, List.cons_append, List.nil_append]
    exact jk_iret rfl dL_act_116 (by exact Or.inl hq)
  · obtain rfl := hX _ _ _ _ _ hx9
    · refine ⟨(tableOf hh_L_act).take 50, ⟨0, 116, 278, 63⟩, (tableOf hh_L_act).drop 51, "java/lang/IllegalStateException", by first | rfl | decide +kernel, (fun z hz => ?_), by first | rfl | decide, by decide, jw_1621, jw_680, fun a9 => ?_⟩
      · have hall : ((tableOf hh_L_act).take 50).all (fun z => !covers z 113 || (z.catchType == 57 || z.catchType == 60)) = true := by decide +kernel
        have h9 := List.all_eq_true.mp hall z hz
        simp only [Bool.or_eq_true, Bool.not_eq_true', beq_iff_eq, Bool.false_eq_true, or_false] at h9
        rcases h9 with h9 | (h9 | h9)
        · exact Or.inl h9
        · exact Or.inr ⟨by rw [h9]; decide, "java/lang/IndexOutOfBoundsException", by rw [h9]; exact jw_1617, fun s hs => (hzn s hs).1⟩
        · exact Or.inr ⟨by rw [h9]; decide, "java/lang/IllegalArgumentException", by rw [h9]; exact jw_1620, fun s hs => (hzn s hs).2.2.2.2.2.1⟩
      · refine jk_astore5 (q := 280) dL_act_278 rfl rfl rfl ?_
        refine jk_ldcV (q := 282) (x := -200003) jw_1638 (by decide) dL_act_280 rfl ?_
        exact jk_iret rfl dL_act_282 (by exact Or.inr ⟨_, hx9, by decide⟩)
theorem w_act_1 {G : jk_G} {n : Nat} {t : jk_T} {σ : jk_I} {ρ : jk_P} {x mc ms : Nat} {a b c : Int} {Q1 : jk_Q} {X1 : jk_X} (hzn : zn_ok G) (hzn2 : zn2_ok G) (hx : t x = some (.inr 12)) (K : jk_K G yX12_fix mX12_fix mc ms [.ref x, jI a, jI b] n t σ ρ Q1 X1) (hQ : ∀ v' n' t' σ' ρ', Q1 v' n' t' σ' ρ' → ∃ v, v' = some (jI v)) (hX : ∀ E n' t' σ' ρ', X1 E n' t' σ' ρ' → E = "java/lang/IndexOutOfBoundsException" ∨ E = "java/lang/IllegalArgumentException") : jk_KH G yL_act mL_act hh_L_act mc ms [.ref x, jI 1, jI a, jI b, jI c] n t σ ρ (ac_Q Q1 X1) jk_no := by
  refine jk_entryH (ls := [some (.ref x), some (jI 1), some (jI a), some (jI b), some (jI c), none]) jm_L_act rfl rfl rfl ?_
  refine jk_iload_n (q := 1) dL_act_0 rfl rfl ?_
  refine jk_tswIn (q := 117) (by decide) dL_act_1 (by decide) rfl rfl ?_
  refine jk_aload_n (q := 118) dL_act_117 rfl rfl ?_
  refine jk_iload_n (q := 119) dL_act_118 rfl rfl ?_
  refine jk_iload_n (q := 120) dL_act_119 rfl rfl ?_
  refine jk_callVC2 (q := 123) (k := 12) (As := [jI a, jI b]) (rest := []) K jm_X12_fix jw_803 rfl hx rfl rfl rfl (Nat.le_refl _) (Nat.le_refl _) dL_act_120 rfl (fun v' n' t' σ' ρ' hq => ?_) (fun E n' t' σ' ρ' hx9 => ?_)
  · obtain ⟨v, rfl⟩ := hQ _ _ _ _ _ hq
    simp only [Option.toList_some, List.cons_append, List.nil_append]
    exact jk_iret rfl dL_act_123 (by exact Or.inl hq)
  · rcases hX _ _ _ _ _ hx9 with rfl | rfl
    · refine ⟨(tableOf hh_L_act).take 1, ⟨117, 123, 268, 57⟩, (tableOf hh_L_act).drop 2, "java/lang/IndexOutOfBoundsException", by first | rfl | decide +kernel, (fun z hz => ?_), by first | rfl | decide, by decide, jw_1617, jw_592, fun a9 => ?_⟩
      · have hall : ((tableOf hh_L_act).take 1).all (fun z => !covers z 120 || (false)) = true := by decide +kernel
        have h9 := List.all_eq_true.mp hall z hz
        simp only [Bool.or_eq_true, Bool.not_eq_true', beq_iff_eq, Bool.false_eq_true, or_false] at h9
        exact Or.inl h9
      · refine jk_astore5 (q := 270) dL_act_268 rfl rfl rfl ?_
        refine jk_ldcV (q := 272) (x := -200001) jw_1636 (by decide) dL_act_270 rfl ?_
        exact jk_iret rfl dL_act_272 (by exact Or.inr ⟨_, hx9, by decide⟩)
    · refine ⟨(tableOf hh_L_act).take 26, ⟨117, 123, 273, 60⟩, (tableOf hh_L_act).drop 27, "java/lang/IllegalArgumentException", by first | rfl | decide +kernel, (fun z hz => ?_), by first | rfl | decide, by decide, jw_1620, jw_664, fun a9 => ?_⟩
      · have hall : ((tableOf hh_L_act).take 26).all (fun z => !covers z 120 || (z.catchType == 57)) = true := by decide +kernel
        have h9 := List.all_eq_true.mp hall z hz
        simp only [Bool.or_eq_true, Bool.not_eq_true', beq_iff_eq, Bool.false_eq_true, or_false] at h9
        rcases h9 with h9 | h9
        · exact Or.inl h9
        · exact Or.inr ⟨by rw [h9]; decide, "java/lang/IndexOutOfBoundsException", by rw [h9]; exact jw_1617, fun s hs => (hzn s hs).2.2.2.2.1⟩
      · refine jk_astore5 (q := 275) dL_act_273 rfl rfl rfl ?_
        refine jk_ldcV (q := 277) (x := -200002) jw_1637 (by decide) dL_act_275 rfl ?_
        exact jk_iret rfl dL_act_277 (by exact Or.inr ⟨_, hx9, by decide⟩)
theorem w_act_2 {G : jk_G} {n : Nat} {t : jk_T} {σ : jk_I} {ρ : jk_P} {x mc ms : Nat} {a b c : Int} {Q1 : jk_Q} {X1 : jk_X} (hzn : zn_ok G) (hzn2 : zn2_ok G) (hx : t x = some (.inr 12)) (K : jk_K G yX12_release mX12_release mc ms [.ref x, jI a] n t σ ρ Q1 X1) (hQ : ∀ v' n' t' σ' ρ', Q1 v' n' t' σ' ρ' → ∃ v, v' = some (jI v)) (hX : ∀ E n' t' σ' ρ', X1 E n' t' σ' ρ' → E = "java/lang/IndexOutOfBoundsException" ∨ E = "java/lang/IllegalStateException") : jk_KH G yL_act mL_act hh_L_act mc ms [.ref x, jI 2, jI a, jI b, jI c] n t σ ρ (ac_Q Q1 X1) jk_no := by
  refine jk_entryH (ls := [some (.ref x), some (jI 2), some (jI a), some (jI b), some (jI c), none]) jm_L_act rfl rfl rfl ?_
  refine jk_iload_n (q := 1) dL_act_0 rfl rfl ?_
  refine jk_tswIn (q := 124) (by decide) dL_act_1 (by decide) rfl rfl ?_
  refine jk_aload_n (q := 125) dL_act_124 rfl rfl ?_
  refine jk_iload_n (q := 126) dL_act_125 rfl rfl ?_
  refine jk_callVC2 (q := 129) (k := 12) (As := [jI a]) (rest := []) K jm_X12_release jw_809 rfl hx rfl rfl rfl (Nat.le_refl _) (Nat.le_refl _) dL_act_126 rfl (fun v' n' t' σ' ρ' hq => ?_) (fun E n' t' σ' ρ' hx9 => ?_)
  · obtain ⟨v, rfl⟩ := hQ _ _ _ _ _ hq
    simp only [Option.toList_some, List.cons_append, List.nil_append]
    exact jk_iret rfl dL_act_129 (by exact Or.inl hq)
  · rcases hX _ _ _ _ _ hx9 with rfl | rfl
    · refine ⟨(tableOf hh_L_act).take 2, ⟨124, 129, 268, 57⟩, (tableOf hh_L_act).drop 3, "java/lang/IndexOutOfBoundsException", by first | rfl | decide +kernel, (fun z hz => ?_), by first | rfl | decide, by decide, jw_1617, jw_592, fun a9 => ?_⟩
      · have hall : ((tableOf hh_L_act).take 2).all (fun z => !covers z 126 || (false)) = true := by decide +kernel
        have h9 := List.all_eq_true.mp hall z hz
        simp only [Bool.or_eq_true, Bool.not_eq_true', beq_iff_eq, Bool.false_eq_true, or_false] at h9
        exact Or.inl h9
      · refine jk_astore5 (q := 270) dL_act_268 rfl rfl rfl ?_
        refine jk_ldcV (q := 272) (x := -200001) jw_1636 (by decide) dL_act_270 rfl ?_
        exact jk_iret rfl dL_act_272 (by exact Or.inr ⟨_, hx9, by decide⟩)
    · refine ⟨(tableOf hh_L_act).take 52, ⟨124, 129, 278, 63⟩, (tableOf hh_L_act).drop 53, "java/lang/IllegalStateException", by first | rfl | decide +kernel, (fun z hz => ?_), by first | rfl | decide, by decide, jw_1621, jw_680, fun a9 => ?_⟩
      · have hall : ((tableOf hh_L_act).take 52).all (fun z => !covers z 126 || (z.catchType == 57 || z.catchType == 60)) = true := by decide +kernel
        have h9 := List.all_eq_true.mp hall z hz
        simp only [Bool.or_eq_true, Bool.not_eq_true', beq_iff_eq, Bool.false_eq_true, or_false] at h9
        rcases h9 with h9 | (h9 | h9)
        · exact Or.inl h9
        · exact Or.inr ⟨by rw [h9]; decide, "java/lang/IndexOutOfBoundsException", by rw [h9]; exact jw_1617, fun s hs => (hzn s hs).1⟩
        · exact Or.inr ⟨by rw [h9]; decide, "java/lang/IllegalArgumentException", by rw [h9]; exact jw_1620, fun s hs => (hzn s hs).2.2.2.2.2.1⟩
      · refine jk_astore5 (q := 280) dL_act_278 rfl rfl rfl ?_
        refine jk_ldcV (q := 282) (x := -200003) jw_1638 (by decide) dL_act_280 rfl ?_
        exact jk_iret rfl dL_act_282 (by exact Or.inr ⟨_, hx9, by decide⟩)
theorem w_act_3 {G : jk_G} {n : Nat} {t : jk_T} {σ : jk_I} {ρ : jk_P} {x mc ms : Nat} {a b c : Int} {Q1 : jk_Q} {X1 : jk_X} (hzn : zn_ok G) (hzn2 : zn2_ok G) (hx : t x = some (.inr 12)) (K : jk_K G yX12_addBackwardRun mX12_addBackwardRun mc ms [.ref x, jI a, jI b] n t σ ρ Q1 X1) (hQ : ∀ v' n' t' σ' ρ', Q1 v' n' t' σ' ρ' → ∃ v, v' = some (jI v)) (hX : ∀ E n' t' σ' ρ', X1 E n' t' σ' ρ' → E = "java/lang/IndexOutOfBoundsException" ∨ E = "java/lang/IllegalArgumentException" ∨ E = "java/lang/IllegalStateException") : jk_KH G yL_act mL_act hh_L_act mc ms [.ref x, jI 3, jI a, jI b, jI c] n t σ ρ (ac_Q Q1 X1) jk_no := by
  refine jk_entryH (ls := [some (.ref x), some (jI 3), some (jI a), some (jI b), some (jI c), none]) jm_L_act rfl rfl rfl ?_
  refine jk_iload_n (q := 1) dL_act_0 rfl rfl ?_
  refine jk_tswIn (q := 130) (by decide) dL_act_1 (by decide) rfl rfl ?_
  refine jk_aload_n (q := 131) dL_act_130 rfl rfl ?_
  refine jk_iload_n (q := 132) dL_act_131 rfl rfl ?_
  refine jk_iload_n (q := 133) dL_act_132 rfl rfl ?_
  refine jk_callVC2 (q := 136) (k := 12) (As := [jI a, jI b]) (rest := []) K jm_X12_addBackwardRun jw_815 rfl hx rfl rfl rfl (Nat.le_refl _) (Nat.le_refl _) dL_act_133 rfl (fun v' n' t' σ' ρ' hq => ?_) (fun E n' t' σ' ρ' hx9 => ?_)
  · obtain ⟨v, rfl⟩ := hQ _ _ _ _ _ hq
    simp only [Option.toList_some, List.cons_append, List.nil_append]
    exact jk_iret rfl dL_act_136 (by exact Or.inl hq)
  · rcases hX _ _ _ _ _ hx9 with rfl | rfl | rfl
    · refine ⟨(tableOf hh_L_act).take 3, ⟨130, 136, 268, 57⟩, (tableOf hh_L_act).drop 4, "java/lang/IndexOutOfBoundsException", by first | rfl | decide +kernel, (fun z hz => ?_), by first | rfl | decide, by decide, jw_1617, jw_592, fun a9 => ?_⟩
      · have hall : ((tableOf hh_L_act).take 3).all (fun z => !covers z 133 || (false)) = true := by decide +kernel
        have h9 := List.all_eq_true.mp hall z hz
        simp only [Bool.or_eq_true, Bool.not_eq_true', beq_iff_eq, Bool.false_eq_true, or_false] at h9
        exact Or.inl h9
      · refine jk_astore5 (q := 270) dL_act_268 rfl rfl rfl ?_
        refine jk_ldcV (q := 272) (x := -200001) jw_1636 (by decide) dL_act_270 rfl ?_
        exact jk_iret rfl dL_act_272 (by exact Or.inr ⟨_, hx9, by decide⟩)
    · refine ⟨(tableOf hh_L_act).take 28, ⟨130, 136, 273, 60⟩, (tableOf hh_L_act).drop 29, "java/lang/IllegalArgumentException", by first | rfl | decide +kernel, (fun z hz => ?_), by first | rfl | decide, by decide, jw_1620, jw_664, fun a9 => ?_⟩
      · have hall : ((tableOf hh_L_act).take 28).all (fun z => !covers z 133 || (z.catchType == 57)) = true := by decide +kernel
        have h9 := List.all_eq_true.mp hall z hz
        simp only [Bool.or_eq_true, Bool.not_eq_true', beq_iff_eq, Bool.false_eq_true, or_false] at h9
        rcases h9 with h9 | h9
        · exact Or.inl h9
        · exact Or.inr ⟨by rw [h9]; decide, "java/lang/IndexOutOfBoundsException", by rw [h9]; exact jw_1617, fun s hs => (hzn s hs).2.2.2.2.1⟩
      · refine jk_astore5 (q := 275) dL_act_273 rfl rfl rfl ?_
        refine jk_ldcV (q := 277) (x := -200002) jw_1637 (by decide) dL_act_275 rfl ?_
        exact jk_iret rfl dL_act_277 (by exact Or.inr ⟨_, hx9, by decide⟩)
    · refine ⟨(tableOf hh_L_act).take 53, ⟨130, 136, 278, 63⟩, (tableOf hh_L_act).drop 54, "java/lang/IllegalStateException", by first | rfl | decide +kernel, (fun z hz => ?_), by first | rfl | decide, by decide, jw_1621, jw_680, fun a9 => ?_⟩
      · have hall : ((tableOf hh_L_act).take 53).all (fun z => !covers z 133 || (z.catchType == 57 || z.catchType == 60)) = true := by decide +kernel
        have h9 := List.all_eq_true.mp hall z hz
        simp only [Bool.or_eq_true, Bool.not_eq_true', beq_iff_eq, Bool.false_eq_true, or_false] at h9
        rcases h9 with h9 | (h9 | h9)
        · exact Or.inl h9
        · exact Or.inr ⟨by rw [h9]; decide, "java/lang/IndexOutOfBoundsException", by rw [h9]; exact jw_1617, fun s hs => (hzn s hs).1⟩
        · exact Or.inr ⟨by rw [h9]; decide, "java/lang/IllegalArgumentException", by rw [h9]; exact jw_1620, fun s hs => (hzn s hs).2.2.2.2.2.1⟩
      · refine jk_astore5 (q := 280) dL_act_278 rfl rfl rfl ?_
        refine jk_ldcV (q := 282) (x := -200003) jw_1638 (by decide) dL_act_280 rfl ?_
        exact jk_iret rfl dL_act_282 (by exact Or.inr ⟨_, hx9, by decide⟩)
theorem w_act_4 {G : jk_G} {n : Nat} {t : jk_T} {σ : jk_I} {ρ : jk_P} {x mc ms : Nat} {a b c : Int} {Q1 : jk_Q} {X1 : jk_X} (hzn : zn_ok G) (hzn2 : zn2_ok G) (hx : t x = some (.inr 12)) (K : jk_K G yX12_exclude mX12_exclude mc ms [.ref x, jI a] n t σ ρ Q1 X1) (hQ : ∀ v' n' t' σ' ρ', Q1 v' n' t' σ' ρ' → ∃ v, v' = some (jI v)) (hX : ∀ E n' t' σ' ρ', X1 E n' t' σ' ρ' → E = "java/lang/IndexOutOfBoundsException" ∨ E = "java/lang/IllegalStateException") : jk_KH G yL_act mL_act hh_L_act mc ms [.ref x, jI 4, jI a, jI b, jI c] n t σ ρ (ac_Q Q1 X1) jk_no := by
  refine jk_entryH (ls := [some (.ref x), some (jI 4), some (jI a), some (jI b), some (jI c), none]) jm_L_act rfl rfl rfl ?_
  refine jk_iload_n (q := 1) dL_act_0 rfl rfl ?_
  refine jk_tswIn (q := 137) (by decide) dL_act_1 (by decide) rfl rfl ?_
  refine jk_aload_n (q := 138) dL_act_137 rfl rfl ?_
  refine jk_iload_n (q := 139) dL_act_138 rfl rfl ?_
  refine jk_callVC2 (q := 142) (k := 12) (As := [jI a]) (rest := []) K jm_X12_exclude jw_821 rfl hx rfl rfl rfl (Nat.le_refl _) (Nat.le_refl _) dL_act_139 rfl (fun v' n' t' σ' ρ' hq => ?_) (fun E n' t' σ' ρ' hx9 => ?_)
  · obtain ⟨v, rfl⟩ := hQ _ _ _ _ _ hq
    simp only [Option.toList_some, List.cons_append, List.nil_append]
    exact jk_iret rfl dL_act_142 (by exact Or.inl hq)
  · rcases hX _ _ _ _ _ hx9 with rfl | rfl
    · refine ⟨(tableOf hh_L_act).take 4, ⟨137, 142, 268, 57⟩, (tableOf hh_L_act).drop 5, "java/lang/IndexOutOfBoundsException", by first | rfl | decide +kernel, (fun z hz => ?_), by first | rfl | decide, by decide, jw_1617, jw_592, fun a9 => ?_⟩
      · have hall : ((tableOf hh_L_act).take 4).all (fun z => !covers z 139 || (false)) = true := by decide +kernel
        have h9 := List.all_eq_true.mp hall z hz
        simp only [Bool.or_eq_true, Bool.not_eq_true', beq_iff_eq, Bool.false_eq_true, or_false] at h9
        exact Or.inl h9
      · refine jk_astore5 (q := 270) dL_act_268 rfl rfl rfl ?_
        refine jk_ldcV (q := 272) (x := -200001) jw_1636 (by decide) dL_act_270 rfl ?_
        exact jk_iret rfl dL_act_272 (by exact Or.inr ⟨_, hx9, by decide⟩)
    · refine ⟨(tableOf hh_L_act).take 54, ⟨137, 142, 278, 63⟩, (tableOf hh_L_act).drop 55, "java/lang/IllegalStateException", by first | rfl | decide +kernel, (fun z hz => ?_), by first | rfl | decide, by decide, jw_1621, jw_680, fun a9 => ?_⟩
      · have hall : ((tableOf hh_L_act).take 54).all (fun z => !covers z 139 || (z.catchType == 57 || z.catchType == 60)) = true := by decide +kernel
        have h9 := List.all_eq_true.mp hall z hz
        simp only [Bool.or_eq_true, Bool.not_eq_true', beq_iff_eq, Bool.false_eq_true, or_false] at h9
        rcases h9 with h9 | (h9 | h9)
        · exact Or.inl h9
        · exact Or.inr ⟨by rw [h9]; decide, "java/lang/IndexOutOfBoundsException", by rw [h9]; exact jw_1617, fun s hs => (hzn s hs).1⟩
        · exact Or.inr ⟨by rw [h9]; decide, "java/lang/IllegalArgumentException", by rw [h9]; exact jw_1620, fun s hs => (hzn s hs).2.2.2.2.2.1⟩
      · refine jk_astore5 (q := 280) dL_act_278 rfl rfl rfl ?_
        refine jk_ldcV (q := 282) (x := -200003) jw_1638 (by decide) dL_act_280 rfl ?_
        exact jk_iret rfl dL_act_282 (by exact Or.inr ⟨_, hx9, by decide⟩)
theorem w_act_5 {G : jk_G} {n : Nat} {t : jk_T} {σ : jk_I} {ρ : jk_P} {x mc ms : Nat} {a b c : Int} {Q1 : jk_Q} {X1 : jk_X} (hzn : zn_ok G) (hzn2 : zn2_ok G) (hx : t x = some (.inr 12)) (K : jk_K G yX12_include mX12_include mc ms [.ref x, jI a] n t σ ρ Q1 X1) (hQ : ∀ v' n' t' σ' ρ', Q1 v' n' t' σ' ρ' → ∃ v, v' = some (jI v)) (hX : ∀ E n' t' σ' ρ', X1 E n' t' σ' ρ' → E = "java/lang/IndexOutOfBoundsException" ∨ E = "java/lang/IllegalStateException") : jk_KH G yL_act mL_act hh_L_act mc ms [.ref x, jI 5, jI a, jI b, jI c] n t σ ρ (ac_Q Q1 X1) jk_no := by
  refine jk_entryH (ls := [some (.ref x), some (jI 5), some (jI a), some (jI b), some (jI c), none]) jm_L_act rfl rfl rfl ?_
  refine jk_iload_n (q := 1) dL_act_0 rfl rfl ?_
  refine jk_tswIn (q := 143) (by decide) dL_act_1 (by decide) rfl rfl ?_
  refine jk_aload_n (q := 144) dL_act_143 rfl rfl ?_
  refine jk_iload_n (q := 145) dL_act_144 rfl rfl ?_
  refine jk_callVC2 (q := 148) (k := 12) (As := [jI a]) (rest := []) K jm_X12_include jw_827 rfl hx rfl rfl rfl (Nat.le_refl _) (Nat.le_refl _) dL_act_145 rfl (fun v' n' t' σ' ρ' hq => ?_) (fun E n' t' σ' ρ' hx9 => ?_)
  · obtain ⟨v, rfl⟩ := hQ _ _ _ _ _ hq
    simp only [Option.toList_some, List.cons_append, List.nil_append]
    exact jk_iret rfl dL_act_148 (by exact Or.inl hq)
  · rcases hX _ _ _ _ _ hx9 with rfl | rfl
    · refine ⟨(tableOf hh_L_act).take 5, ⟨143, 148, 268, 57⟩, (tableOf hh_L_act).drop 6, "java/lang/IndexOutOfBoundsException", by first | rfl | decide +kernel, (fun z hz => ?_), by first | rfl | decide, by decide, jw_1617, jw_592, fun a9 => ?_⟩
      · have hall : ((tableOf hh_L_act).take 5).all (fun z => !covers z 145 || (false)) = true := by decide +kernel
        have h9 := List.all_eq_true.mp hall z hz
        simp only [Bool.or_eq_true, Bool.not_eq_true', beq_iff_eq, Bool.false_eq_true, or_false] at h9
        exact Or.inl h9
      · refine jk_astore5 (q := 270) dL_act_268 rfl rfl rfl ?_
        refine jk_ldcV (q := 272) (x := -200001) jw_1636 (by decide) dL_act_270 rfl ?_
        exact jk_iret rfl dL_act_272 (by exact Or.inr ⟨_, hx9, by decide⟩)
    · refine ⟨(tableOf hh_L_act).take 55, ⟨143, 148, 278, 63⟩, (tableOf hh_L_act).drop 56, "java/lang/IllegalStateException", by first | rfl | decide +kernel, (fun z hz => ?_), by first | rfl | decide, by decide, jw_1621, jw_680, fun a9 => ?_⟩
      · have hall : ((tableOf hh_L_act).take 55).all (fun z => !covers z 145 || (z.catchType == 57 || z.catchType == 60)) = true := by decide +kernel
        have h9 := List.all_eq_true.mp hall z hz
        simp only [Bool.or_eq_true, Bool.not_eq_true', beq_iff_eq, Bool.false_eq_true, or_false] at h9
        rcases h9 with h9 | (h9 | h9)
        · exact Or.inl h9
        · exact Or.inr ⟨by rw [h9]; decide, "java/lang/IndexOutOfBoundsException", by rw [h9]; exact jw_1617, fun s hs => (hzn s hs).1⟩
        · exact Or.inr ⟨by rw [h9]; decide, "java/lang/IllegalArgumentException", by rw [h9]; exact jw_1620, fun s hs => (hzn s hs).2.2.2.2.2.1⟩
      · refine jk_astore5 (q := 280) dL_act_278 rfl rfl rfl ?_
        refine jk_ldcV (q := 282) (x := -200003) jw_1638 (by decide) dL_act_280 rfl ?_
        exact jk_iret rfl dL_act_282 (by exact Or.inr ⟨_, hx9, by decide⟩)
theorem w_act_6 {G : jk_G} {n : Nat} {t : jk_T} {σ : jk_I} {ρ : jk_P} {x mc ms : Nat} {a b c : Int} {Q1 : jk_Q} {X1 : jk_X} (hzn : zn_ok G) (hzn2 : zn2_ok G) (hx : t x = some (.inr 12)) (K : jk_K G yX12_shareMisclosure mX12_shareMisclosure mc ms [.ref x, jI a] n t σ ρ Q1 X1) (hQ : ∀ v' n' t' σ' ρ', Q1 v' n' t' σ' ρ' → ∃ v, v' = some (jI v)) (hX : ∀ E n' t' σ' ρ', X1 E n' t' σ' ρ' → E = "java/lang/IndexOutOfBoundsException" ∨ E = "java/util/NoSuchElementException" ∨ E = "java/lang/UnsupportedOperationException") : jk_KH G yL_act mL_act hh_L_act mc ms [.ref x, jI 6, jI a, jI b, jI c] n t σ ρ (ac_Q Q1 X1) jk_no := by
  refine jk_entryH (ls := [some (.ref x), some (jI 6), some (jI a), some (jI b), some (jI c), none]) jm_L_act rfl rfl rfl ?_
  refine jk_iload_n (q := 1) dL_act_0 rfl rfl ?_
  refine jk_tswIn (q := 149) (by decide) dL_act_1 (by decide) rfl rfl ?_
  refine jk_aload_n (q := 150) dL_act_149 rfl rfl ?_
  refine jk_iload_n (q := 151) dL_act_150 rfl rfl ?_
  refine jk_callVC2 (q := 154) (k := 12) (As := [jI a]) (rest := []) K jm_X12_shareMisclosure jw_833 rfl hx rfl rfl rfl (Nat.le_refl _) (Nat.le_refl _) dL_act_151 rfl (fun v' n' t' σ' ρ' hq => ?_) (fun E n' t' σ' ρ' hx9 => ?_)
  · obtain ⟨v, rfl⟩ := hQ _ _ _ _ _ hq
    simp only [Option.toList_some, List.cons_append, List.nil_append]
    exact jk_iret rfl dL_act_154 (by exact Or.inl hq)
  · rcases hX _ _ _ _ _ hx9 with rfl | rfl | rfl
    · refine ⟨(tableOf hh_L_act).take 6, ⟨149, 154, 268, 57⟩, (tableOf hh_L_act).drop 7, "java/lang/IndexOutOfBoundsException", by first | rfl | decide +kernel, (fun z hz => ?_), by first | rfl | decide, by decide, jw_1617, jw_592, fun a9 => ?_⟩
      · have hall : ((tableOf hh_L_act).take 6).all (fun z => !covers z 151 || (false)) = true := by decide +kernel
        have h9 := List.all_eq_true.mp hall z hz
        simp only [Bool.or_eq_true, Bool.not_eq_true', beq_iff_eq, Bool.false_eq_true, or_false] at h9
        exact Or.inl h9
      · refine jk_astore5 (q := 270) dL_act_268 rfl rfl rfl ?_
        refine jk_ldcV (q := 272) (x := -200001) jw_1636 (by decide) dL_act_270 rfl ?_
        exact jk_iret rfl dL_act_272 (by exact Or.inr ⟨_, hx9, by decide⟩)
    · refine ⟨(tableOf hh_L_act).take 106, ⟨149, 154, 288, 145⟩, (tableOf hh_L_act).drop 107, "java/util/NoSuchElementException", by first | rfl | decide +kernel, (fun z hz => ?_), by first | rfl | decide, by decide, jw_1623, jw_696, fun a9 => ?_⟩
      · have hall : ((tableOf hh_L_act).take 106).all (fun z => !covers z 151 || (z.catchType == 57 || z.catchType == 60 || z.catchType == 63 || z.catchType == 142)) = true := by decide +kernel
        have h9 := List.all_eq_true.mp hall z hz
        simp only [Bool.or_eq_true, Bool.not_eq_true', beq_iff_eq, Bool.false_eq_true, or_false] at h9
        rcases h9 with h9 | (((h9 | h9) | h9) | h9)
        · exact Or.inl h9
        · exact Or.inr ⟨by rw [h9]; decide, "java/lang/IndexOutOfBoundsException", by rw [h9]; exact jw_1617, fun s hs => (hzn s hs).2.2.2.2.2.2⟩
        · exact Or.inr ⟨by rw [h9]; decide, "java/lang/IllegalArgumentException", by rw [h9]; exact jw_1620, fun s hs => (hzn s hs).2.2.2.1⟩
        · exact Or.inr ⟨by rw [h9]; decide, "java/lang/IllegalStateException", by rw [h9]; exact jw_1621, fun s hs => (hzn2 s hs).2.2.1⟩
        · exact Or.inr ⟨by rw [h9]; decide, "java/lang/UnsupportedOperationException", by rw [h9]; exact jw_1622, fun s hs => (hzn2 s hs).2.2.2⟩
      · refine jk_astore5 (q := 290) dL_act_288 rfl rfl rfl ?_
        refine jk_ldcV (q := 292) (x := -200005) jw_1640 (by decide) dL_act_290 rfl ?_
        exact jk_iret rfl dL_act_292 (by exact Or.inr ⟨_, hx9, by decide⟩)
    · refine ⟨(tableOf hh_L_act).take 81, ⟨149, 154, 283, 142⟩, (tableOf hh_L_act).drop 82, "java/lang/UnsupportedOperationException", by first | rfl | decide +kernel, (fun z hz => ?_), by first | rfl | decide, by decide, jw_1622, jw_712, fun a9 => ?_⟩
      · have hall : ((tableOf hh_L_act).take 81).all (fun z => !covers z 151 || (z.catchType == 57 || z.catchType == 60 || z.catchType == 63)) = true := by decide +kernel
        have h9 := List.all_eq_true.mp hall z hz
        simp only [Bool.or_eq_true, Bool.not_eq_true', beq_iff_eq, Bool.false_eq_true, or_false] at h9
        rcases h9 with h9 | ((h9 | h9) | h9)
        · exact Or.inl h9
        · exact Or.inr ⟨by rw [h9]; decide, "java/lang/IndexOutOfBoundsException", by rw [h9]; exact jw_1617, fun s hs => (hzn s hs).2.2.1⟩
        · exact Or.inr ⟨by rw [h9]; decide, "java/lang/IllegalArgumentException", by rw [h9]; exact jw_1620, fun s hs => (hzn2 s hs).1⟩
        · exact Or.inr ⟨by rw [h9]; decide, "java/lang/IllegalStateException", by rw [h9]; exact jw_1621, fun s hs => (hzn2 s hs).2.1⟩
      · refine jk_astore5 (q := 285) dL_act_283 rfl rfl rfl ?_
        refine jk_ldcV (q := 287) (x := -200004) jw_1639 (by decide) dL_act_285 rfl ?_
        exact jk_iret rfl dL_act_287 (by exact Or.inr ⟨_, hx9, by decide⟩)
theorem w_act_7 {G : jk_G} {n : Nat} {t : jk_T} {σ : jk_I} {ρ : jk_P} {x mc ms : Nat} {a b c : Int} {Q1 : jk_Q} {X1 : jk_X} (hzn : zn_ok G) (hzn2 : zn2_ok G) (hx : t x = some (.inr 12)) (K : jk_K G yX12_addProfile mX12_addProfile mc ms [.ref x, jI a] n t σ ρ Q1 X1) (hQ : ∀ v' n' t' σ' ρ', Q1 v' n' t' σ' ρ' → ∃ v, v' = some (jI v)) (hX : ∀ E n' t' σ' ρ', X1 E n' t' σ' ρ' → E = "java/lang/IndexOutOfBoundsException" ∨ E = "java/lang/IllegalStateException") : jk_KH G yL_act mL_act hh_L_act mc ms [.ref x, jI 7, jI a, jI b, jI c] n t σ ρ (ac_Q Q1 X1) jk_no := by
  refine jk_entryH (ls := [some (.ref x), some (jI 7), some (jI a), some (jI b), some (jI c), none]) jm_L_act rfl rfl rfl ?_
  refine jk_iload_n (q := 1) dL_act_0 rfl rfl ?_
  refine jk_tswIn (q := 155) (by decide) dL_act_1 (by decide) rfl rfl ?_
  refine jk_aload_n (q := 156) dL_act_155 rfl rfl ?_
  refine jk_iload_n (q := 157) dL_act_156 rfl rfl ?_
  refine jk_callVC2 (q := 160) (k := 12) (As := [jI a]) (rest := []) K jm_X12_addProfile jw_1624 rfl hx rfl rfl rfl (Nat.le_refl _) (Nat.le_refl _) dL_act_157 rfl (fun v' n' t' σ' ρ' hq => ?_) (fun E n' t' σ' ρ' hx9 => ?_)
  · obtain ⟨v, rfl⟩ := hQ _ _ _ _ _ hq
    simp only [Option.toList_some, List.cons_append, List.nil_append]
    exact jk_iret rfl dL_act_160 (by exact Or.inl hq)
  · rcases hX _ _ _ _ _ hx9 with rfl | rfl
    · refine ⟨(tableOf hh_L_act).take 7, ⟨155, 160, 268, 57⟩, (tableOf hh_L_act).drop 8, "java/lang/IndexOutOfBoundsException", by first | rfl | decide +kernel, (fun z hz => ?_), by first | rfl | decide, by decide, jw_1617, jw_592, fun a9 => ?_⟩
      · have hall : ((tableOf hh_L_act).take 7).all (fun z => !covers z 157 || (false)) = true := by decide +kernel
        have h9 := List.all_eq_true.mp hall z hz
        simp only [Bool.or_eq_true, Bool.not_eq_true', beq_iff_eq, Bool.false_eq_true, or_false] at h9
        exact Or.inl h9
      · refine jk_astore5 (q := 270) dL_act_268 rfl rfl rfl ?_
        refine jk_ldcV (q := 272) (x := -200001) jw_1636 (by decide) dL_act_270 rfl ?_
        exact jk_iret rfl dL_act_272 (by exact Or.inr ⟨_, hx9, by decide⟩)
    · refine ⟨(tableOf hh_L_act).take 57, ⟨155, 160, 278, 63⟩, (tableOf hh_L_act).drop 58, "java/lang/IllegalStateException", by first | rfl | decide +kernel, (fun z hz => ?_), by first | rfl | decide, by decide, jw_1621, jw_680, fun a9 => ?_⟩
      · have hall : ((tableOf hh_L_act).take 57).all (fun z => !covers z 157 || (z.catchType == 57 || z.catchType == 60)) = true := by decide +kernel
        have h9 := List.all_eq_true.mp hall z hz
        simp only [Bool.or_eq_true, Bool.not_eq_true', beq_iff_eq, Bool.false_eq_true, or_false] at h9
        rcases h9 with h9 | (h9 | h9)
        · exact Or.inl h9
        · exact Or.inr ⟨by rw [h9]; decide, "java/lang/IndexOutOfBoundsException", by rw [h9]; exact jw_1617, fun s hs => (hzn s hs).1⟩
        · exact Or.inr ⟨by rw [h9]; decide, "java/lang/IllegalArgumentException", by rw [h9]; exact jw_1620, fun s hs => (hzn s hs).2.2.2.2.2.1⟩
      · refine jk_astore5 (q := 280) dL_act_278 rfl rfl rfl ?_
        refine jk_ldcV (q := 282) (x := -200003) jw_1638 (by decide) dL_act_280 rfl ?_
        exact jk_iret rfl dL_act_282 (by exact Or.inr ⟨_, hx9, by decide⟩)
theorem w_act_8 {G : jk_G} {n : Nat} {t : jk_T} {σ : jk_I} {ρ : jk_P} {x mc ms : Nat} {a b c : Int} {Q1 : jk_Q} {X1 : jk_X} (hzn : zn_ok G) (hzn2 : zn2_ok G) (hx : t x = some (.inr 12)) (K : jk_K G yX12_addStation mX12_addStation mc ms [.ref x, jI a, jI b, jI c] n t σ ρ Q1 X1) (hQ : ∀ v' n' t' σ' ρ', Q1 v' n' t' σ' ρ' → ∃ v, v' = some (jI v)) (hX : ∀ E n' t' σ' ρ', X1 E n' t' σ' ρ' → E = "java/lang/IndexOutOfBoundsException" ∨ E = "java/lang/IllegalArgumentException" ∨ E = "java/lang/IllegalStateException") : jk_KH G yL_act mL_act hh_L_act mc ms [.ref x, jI 8, jI a, jI b, jI c] n t σ ρ (ac_Q Q1 X1) jk_no := by
  refine jk_entryH (ls := [some (.ref x), some (jI 8), some (jI a), some (jI b), some (jI c), none]) jm_L_act rfl rfl rfl ?_
  refine jk_iload_n (q := 1) dL_act_0 rfl rfl ?_
  refine jk_tswIn (q := 161) (by decide) dL_act_1 (by decide) rfl rfl ?_
  refine jk_aload_n (q := 162) dL_act_161 rfl rfl ?_
  refine jk_iload_n (q := 163) dL_act_162 rfl rfl ?_
  refine jk_iload_n (q := 164) dL_act_163 rfl rfl ?_
  refine jk_iload (q := 166) dL_act_164 rfl rfl ?_
  refine jk_callVC2 (q := 169) (k := 12) (As := [jI a, jI b, jI c]) (rest := []) K jm_X12_addStation jw_1630 rfl hx rfl rfl rfl (Nat.le_refl _) (Nat.le_refl _) dL_act_166 rfl (fun v' n' t' σ' ρ' hq => ?_) (fun E n' t' σ' ρ' hx9 => ?_)
  · obtain ⟨v, rfl⟩ := hQ _ _ _ _ _ hq
    simp only [Option.toList_some, List.cons_append, List.nil_append]
    exact jk_iret rfl dL_act_169 (by exact Or.inl hq)
  · rcases hX _ _ _ _ _ hx9 with rfl | rfl | rfl
    · refine ⟨(tableOf hh_L_act).take 8, ⟨161, 169, 268, 57⟩, (tableOf hh_L_act).drop 9, "java/lang/IndexOutOfBoundsException", by first | rfl | decide +kernel, (fun z hz => ?_), by first | rfl | decide, by decide, jw_1617, jw_592, fun a9 => ?_⟩
      · have hall : ((tableOf hh_L_act).take 8).all (fun z => !covers z 166 || (false)) = true := by decide +kernel
        have h9 := List.all_eq_true.mp hall z hz
        simp only [Bool.or_eq_true, Bool.not_eq_true', beq_iff_eq, Bool.false_eq_true, or_false] at h9
        exact Or.inl h9
      · refine jk_astore5 (q := 270) dL_act_268 rfl rfl rfl ?_
        refine jk_ldcV (q := 272) (x := -200001) jw_1636 (by decide) dL_act_270 rfl ?_
        exact jk_iret rfl dL_act_272 (by exact Or.inr ⟨_, hx9, by decide⟩)
    · refine ⟨(tableOf hh_L_act).take 33, ⟨161, 169, 273, 60⟩, (tableOf hh_L_act).drop 34, "java/lang/IllegalArgumentException", by first | rfl | decide +kernel, (fun z hz => ?_), by first | rfl | decide, by decide, jw_1620, jw_664, fun a9 => ?_⟩
      · have hall : ((tableOf hh_L_act).take 33).all (fun z => !covers z 166 || (z.catchType == 57)) = true := by decide +kernel
        have h9 := List.all_eq_true.mp hall z hz
        simp only [Bool.or_eq_true, Bool.not_eq_true', beq_iff_eq, Bool.false_eq_true, or_false] at h9
        rcases h9 with h9 | h9
        · exact Or.inl h9
        · exact Or.inr ⟨by rw [h9]; decide, "java/lang/IndexOutOfBoundsException", by rw [h9]; exact jw_1617, fun s hs => (hzn s hs).2.2.2.2.1⟩
      · refine jk_astore5 (q := 275) dL_act_273 rfl rfl rfl ?_
        refine jk_ldcV (q := 277) (x := -200002) jw_1637 (by decide) dL_act_275 rfl ?_
        exact jk_iret rfl dL_act_277 (by exact Or.inr ⟨_, hx9, by decide⟩)
    · refine ⟨(tableOf hh_L_act).take 58, ⟨161, 169, 278, 63⟩, (tableOf hh_L_act).drop 59, "java/lang/IllegalStateException", by first | rfl | decide +kernel, (fun z hz => ?_), by first | rfl | decide, by decide, jw_1621, jw_680, fun a9 => ?_⟩
      · have hall : ((tableOf hh_L_act).take 58).all (fun z => !covers z 166 || (z.catchType == 57 || z.catchType == 60)) = true := by decide +kernel
        have h9 := List.all_eq_true.mp hall z hz
        simp only [Bool.or_eq_true, Bool.not_eq_true', beq_iff_eq, Bool.false_eq_true, or_false] at h9
        rcases h9 with h9 | (h9 | h9)
        · exact Or.inl h9
        · exact Or.inr ⟨by rw [h9]; decide, "java/lang/IndexOutOfBoundsException", by rw [h9]; exact jw_1617, fun s hs => (hzn s hs).1⟩
        · exact Or.inr ⟨by rw [h9]; decide, "java/lang/IllegalArgumentException", by rw [h9]; exact jw_1620, fun s hs => (hzn s hs).2.2.2.2.2.1⟩
      · refine jk_astore5 (q := 280) dL_act_278 rfl rfl rfl ?_
        refine jk_ldcV (q := 282) (x := -200003) jw_1638 (by decide) dL_act_280 rfl ?_
        exact jk_iret rfl dL_act_282 (by exact Or.inr ⟨_, hx9, by decide⟩)
theorem w_act_9 {G : jk_G} {n : Nat} {t : jk_T} {σ : jk_I} {ρ : jk_P} {x mc ms : Nat} {a b c : Int} {Q1 : jk_Q} {X1 : jk_X} (hzn : zn_ok G) (hzn2 : zn2_ok G) (hx : t x = some (.inr 12)) (K : jk_K G yX12_setWaterLevel mX12_setWaterLevel mc ms [.ref x, jI a] n t σ ρ Q1 X1) (hQ : ∀ v' n' t' σ' ρ', Q1 v' n' t' σ' ρ' → ∃ v, v' = some (jI v)) (hX : ∀ E n' t' σ' ρ', X1 E n' t' σ' ρ' → E = "java/lang/IllegalArgumentException") : jk_KH G yL_act mL_act hh_L_act mc ms [.ref x, jI 9, jI a, jI b, jI c] n t σ ρ (ac_Q Q1 X1) jk_no := by
  refine jk_entryH (ls := [some (.ref x), some (jI 9), some (jI a), some (jI b), some (jI c), none]) jm_L_act rfl rfl rfl ?_
  refine jk_iload_n (q := 1) dL_act_0 rfl rfl ?_
  refine jk_tswIn (q := 170) (by decide) dL_act_1 (by decide) rfl rfl ?_
  refine jk_aload_n (q := 171) dL_act_170 rfl rfl ?_
  refine jk_iload_n (q := 172) dL_act_171 rfl rfl ?_
  refine jk_callVC2 (q := 175) (k := 12) (As := [jI a]) (rest := []) K jm_X12_setWaterLevel jw_845 rfl hx rfl rfl rfl (Nat.le_refl _) (Nat.le_refl _) dL_act_172 rfl (fun v' n' t' σ' ρ' hq => ?_) (fun E n' t' σ' ρ' hx9 => ?_)
  · obtain ⟨v, rfl⟩ := hQ _ _ _ _ _ hq
    simp only [Option.toList_some, List.cons_append, List.nil_append]
    exact jk_iret rfl dL_act_175 (by exact Or.inl hq)
  · obtain rfl := hX _ _ _ _ _ hx9
    · refine ⟨(tableOf hh_L_act).take 34, ⟨170, 175, 273, 60⟩, (tableOf hh_L_act).drop 35, "java/lang/IllegalArgumentException", by first | rfl | decide +kernel, (fun z hz => ?_), by first | rfl | decide, by decide, jw_1620, jw_664, fun a9 => ?_⟩
      · have hall : ((tableOf hh_L_act).take 34).all (fun z => !covers z 172 || (z.catchType == 57)) = true := by decide +kernel
        have h9 := List.all_eq_true.mp hall z hz
        simp only [Bool.or_eq_true, Bool.not_eq_true', beq_iff_eq, Bool.false_eq_true, or_false] at h9
        rcases h9 with h9 | h9
        · exact Or.inl h9
        · exact Or.inr ⟨by rw [h9]; decide, "java/lang/IndexOutOfBoundsException", by rw [h9]; exact jw_1617, fun s hs => (hzn s hs).2.2.2.2.1⟩
      · refine jk_astore5 (q := 275) dL_act_273 rfl rfl rfl ?_
        refine jk_ldcV (q := 277) (x := -200002) jw_1637 (by decide) dL_act_275 rfl ?_
        exact jk_iret rfl dL_act_277 (by exact Or.inr ⟨_, hx9, by decide⟩)
theorem w_act_10 {G : jk_G} {n : Nat} {t : jk_T} {σ : jk_I} {ρ : jk_P} {x mc ms : Nat} {a b c : Int} {Q1 : jk_Q} {X1 : jk_X} (hzn : zn_ok G) (hzn2 : zn2_ok G) (hx : t x = some (.inr 12)) (K : jk_K G yX12_height mX12_height mc ms [.ref x, jI a] n t σ ρ Q1 X1) (hQ : ∀ v' n' t' σ' ρ', Q1 v' n' t' σ' ρ' → ∃ v, v' = some (jI v)) (hX : ∀ E n' t' σ' ρ', X1 E n' t' σ' ρ' → E = "java/lang/IndexOutOfBoundsException" ∨ E = "java/util/NoSuchElementException") : jk_KH G yL_act mL_act hh_L_act mc ms [.ref x, jI 10, jI a, jI b, jI c] n t σ ρ (ac_Q Q1 X1) jk_no := by
  refine jk_entryH (ls := [some (.ref x), some (jI 10), some (jI a), some (jI b), some (jI c), none]) jm_L_act rfl rfl rfl ?_
  refine jk_iload_n (q := 1) dL_act_0 rfl rfl ?_
  refine jk_tswIn (q := 176) (by decide) dL_act_1 (by decide) rfl rfl ?_
  refine jk_aload_n (q := 177) dL_act_176 rfl rfl ?_
  refine jk_iload_n (q := 178) dL_act_177 rfl rfl ?_
  refine jk_callVC2 (q := 181) (k := 12) (As := [jI a]) (rest := []) K jm_X12_height jw_874 rfl hx rfl rfl rfl (Nat.le_refl _) (Nat.le_refl _) dL_act_178 rfl (fun v' n' t' σ' ρ' hq => ?_) (fun E n' t' σ' ρ' hx9 => ?_)
  · obtain ⟨v, rfl⟩ := hQ _ _ _ _ _ hq
    simp only [Option.toList_some, List.cons_append, List.nil_append]
    exact jk_iret rfl dL_act_181 (by exact Or.inl hq)
  · rcases hX _ _ _ _ _ hx9 with rfl | rfl
    · refine ⟨(tableOf hh_L_act).take 10, ⟨176, 181, 268, 57⟩, (tableOf hh_L_act).drop 11, "java/lang/IndexOutOfBoundsException", by first | rfl | decide +kernel, (fun z hz => ?_), by first | rfl | decide, by decide, jw_1617, jw_592, fun a9 => ?_⟩
      · have hall : ((tableOf hh_L_act).take 10).all (fun z => !covers z 178 || (false)) = true := by decide +kernel
        have h9 := List.all_eq_true.mp hall z hz
        simp only [Bool.or_eq_true, Bool.not_eq_true', beq_iff_eq, Bool.false_eq_true, or_false] at h9
        exact Or.inl h9
      · refine jk_astore5 (q := 270) dL_act_268 rfl rfl rfl ?_
        refine jk_ldcV (q := 272) (x := -200001) jw_1636 (by decide) dL_act_270 rfl ?_
        exact jk_iret rfl dL_act_272 (by exact Or.inr ⟨_, hx9, by decide⟩)
    · refine ⟨(tableOf hh_L_act).take 110, ⟨176, 181, 288, 145⟩, (tableOf hh_L_act).drop 111, "java/util/NoSuchElementException", by first | rfl | decide +kernel, (fun z hz => ?_), by first | rfl | decide, by decide, jw_1623, jw_696, fun a9 => ?_⟩
      · have hall : ((tableOf hh_L_act).take 110).all (fun z => !covers z 178 || (z.catchType == 57 || z.catchType == 60 || z.catchType == 63 || z.catchType == 142)) = true := by decide +kernel
        have h9 := List.all_eq_true.mp hall z hz
        simp only [Bool.or_eq_true, Bool.not_eq_true', beq_iff_eq, Bool.false_eq_true, or_false] at h9
        rcases h9 with h9 | (((h9 | h9) | h9) | h9)
        · exact Or.inl h9
        · exact Or.inr ⟨by rw [h9]; decide, "java/lang/IndexOutOfBoundsException", by rw [h9]; exact jw_1617, fun s hs => (hzn s hs).2.2.2.2.2.2⟩
        · exact Or.inr ⟨by rw [h9]; decide, "java/lang/IllegalArgumentException", by rw [h9]; exact jw_1620, fun s hs => (hzn s hs).2.2.2.1⟩
        · exact Or.inr ⟨by rw [h9]; decide, "java/lang/IllegalStateException", by rw [h9]; exact jw_1621, fun s hs => (hzn2 s hs).2.2.1⟩
        · exact Or.inr ⟨by rw [h9]; decide, "java/lang/UnsupportedOperationException", by rw [h9]; exact jw_1622, fun s hs => (hzn2 s hs).2.2.2⟩
      · refine jk_astore5 (q := 290) dL_act_288 rfl rfl rfl ?_
        refine jk_ldcV (q := 292) (x := -200005) jw_1640 (by decide) dL_act_290 rfl ?_
        exact jk_iret rfl dL_act_292 (by exact Or.inr ⟨_, hx9, by decide⟩)
theorem w_act_14 {G : jk_G} {n : Nat} {t : jk_T} {σ : jk_I} {ρ : jk_P} {x mc ms : Nat} {a b c : Int} {Q1 : jk_Q} {X1 : jk_X} (hzn : zn_ok G) (hzn2 : zn2_ok G) (hx : t x = some (.inr 12)) (K : jk_K G yX12_ground mX12_ground mc ms [.ref x, jI a, jI b] n t σ ρ Q1 X1) (hQ : ∀ v' n' t' σ' ρ', Q1 v' n' t' σ' ρ' → ∃ v, v' = some (jI v)) (hX : ∀ E n' t' σ' ρ', X1 E n' t' σ' ρ' → E = "java/lang/IndexOutOfBoundsException" ∨ E = "java/lang/IllegalArgumentException" ∨ E = "java/util/NoSuchElementException") : jk_KH G yL_act mL_act hh_L_act mc ms [.ref x, jI 14, jI a, jI b, jI c] n t σ ρ (ac_Q Q1 X1) jk_no := by
  refine jk_entryH (ls := [some (.ref x), some (jI 14), some (jI a), some (jI b), some (jI c), none]) jm_L_act rfl rfl rfl ?_
  refine jk_iload_n (q := 1) dL_act_0 rfl rfl ?_
  refine jk_tswIn (q := 200) (by decide) dL_act_1 (by decide) rfl rfl ?_
  refine jk_aload_n (q := 201) dL_act_200 rfl rfl ?_
  refine jk_iload_n (q := 202) dL_act_201 rfl rfl ?_
  refine jk_iload_n (q := 203) dL_act_202 rfl rfl ?_
  refine jk_callVC2 (q := 206) (k := 12) (As := [jI a, jI b]) (rest := []) K jm_X12_ground jw_1072 rfl hx rfl rfl rfl (Nat.le_refl _) (Nat.le_refl _) dL_act_203 rfl (fun v' n' t' σ' ρ' hq => ?_) (fun E n' t' σ' ρ' hx9 => ?_)
  · obtain ⟨v, rfl⟩ := hQ _ _ _ _ _ hq
    simp only [Option.toList_some, List.cons_append, List.nil_append]
    exact jk_iret rfl dL_act_206 (by exact Or.inl hq)
  · rcases hX _ _ _ _ _ hx9 with rfl | rfl | rfl
    · refine ⟨(tableOf hh_L_act).take 14, ⟨200, 206, 268, 57⟩, (tableOf hh_L_act).drop 15, "java/lang/IndexOutOfBoundsException", by first | rfl | decide +kernel, (fun z hz => ?_), by first | rfl | decide, by decide, jw_1617, jw_592, fun a9 => ?_⟩
      · have hall : ((tableOf hh_L_act).take 14).all (fun z => !covers z 203 || (false)) = true := by decide +kernel
        have h9 := List.all_eq_true.mp hall z hz
        simp only [Bool.or_eq_true, Bool.not_eq_true', beq_iff_eq, Bool.false_eq_true, or_false] at h9
        exact Or.inl h9
      · refine jk_astore5 (q := 270) dL_act_268 rfl rfl rfl ?_
        refine jk_ldcV (q := 272) (x := -200001) jw_1636 (by decide) dL_act_270 rfl ?_
        exact jk_iret rfl dL_act_272 (by exact Or.inr ⟨_, hx9, by decide⟩)
    · refine ⟨(tableOf hh_L_act).take 39, ⟨200, 206, 273, 60⟩, (tableOf hh_L_act).drop 40, "java/lang/IllegalArgumentException", by first | rfl | decide +kernel, (fun z hz => ?_), by first | rfl | decide, by decide, jw_1620, jw_664, fun a9 => ?_⟩
      · have hall : ((tableOf hh_L_act).take 39).all (fun z => !covers z 203 || (z.catchType == 57)) = true := by decide +kernel
        have h9 := List.all_eq_true.mp hall z hz
        simp only [Bool.or_eq_true, Bool.not_eq_true', beq_iff_eq, Bool.false_eq_true, or_false] at h9
        rcases h9 with h9 | h9
        · exact Or.inl h9
        · exact Or.inr ⟨by rw [h9]; decide, "java/lang/IndexOutOfBoundsException", by rw [h9]; exact jw_1617, fun s hs => (hzn s hs).2.2.2.2.1⟩
      · refine jk_astore5 (q := 275) dL_act_273 rfl rfl rfl ?_
        refine jk_ldcV (q := 277) (x := -200002) jw_1637 (by decide) dL_act_275 rfl ?_
        exact jk_iret rfl dL_act_277 (by exact Or.inr ⟨_, hx9, by decide⟩)
    · refine ⟨(tableOf hh_L_act).take 114, ⟨200, 206, 288, 145⟩, (tableOf hh_L_act).drop 115, "java/util/NoSuchElementException", by first | rfl | decide +kernel, (fun z hz => ?_), by first | rfl | decide, by decide, jw_1623, jw_696, fun a9 => ?_⟩
      · have hall : ((tableOf hh_L_act).take 114).all (fun z => !covers z 203 || (z.catchType == 57 || z.catchType == 60 || z.catchType == 63 || z.catchType == 142)) = true := by decide +kernel
        have h9 := List.all_eq_true.mp hall z hz
        simp only [Bool.or_eq_true, Bool.not_eq_true', beq_iff_eq, Bool.false_eq_true, or_false] at h9
        rcases h9 with h9 | (((h9 | h9) | h9) | h9)
        · exact Or.inl h9
        · exact Or.inr ⟨by rw [h9]; decide, "java/lang/IndexOutOfBoundsException", by rw [h9]; exact jw_1617, fun s hs => (hzn s hs).2.2.2.2.2.2⟩
        · exact Or.inr ⟨by rw [h9]; decide, "java/lang/IllegalArgumentException", by rw [h9]; exact jw_1620, fun s hs => (hzn s hs).2.2.2.1⟩
        · exact Or.inr ⟨by rw [h9]; decide, "java/lang/IllegalStateException", by rw [h9]; exact jw_1621, fun s hs => (hzn2 s hs).2.2.1⟩
        · exact Or.inr ⟨by rw [h9]; decide, "java/lang/UnsupportedOperationException", by rw [h9]; exact jw_1622, fun s hs => (hzn2 s hs).2.2.2⟩
      · refine jk_astore5 (q := 290) dL_act_288 rfl rfl rfl ?_
        refine jk_ldcV (q := 292) (x := -200005) jw_1640 (by decide) dL_act_290 rfl ?_
        exact jk_iret rfl dL_act_292 (by exact Or.inr ⟨_, hx9, by decide⟩)
theorem w_act_15 {G : jk_G} {n : Nat} {t : jk_T} {σ : jk_I} {ρ : jk_P} {x mc ms : Nat} {a b c : Int} {Q1 : jk_Q} {X1 : jk_X} (hzn : zn_ok G) (hzn2 : zn2_ok G) (hx : t x = some (.inr 12)) (K : jk_K G yX12_wetColumns mX12_wetColumns mc ms [.ref x, jI a] n t σ ρ Q1 X1) (hQ : ∀ v' n' t' σ' ρ', Q1 v' n' t' σ' ρ' → ∃ v, v' = some (jI v)) (hX : ∀ E n' t' σ' ρ', X1 E n' t' σ' ρ' → E = "java/lang/IndexOutOfBoundsException" ∨ E = "java/util/NoSuchElementException") : jk_KH G yL_act mL_act hh_L_act mc ms [.ref x, jI 15, jI a, jI b, jI c] n t σ ρ (ac_Q Q1 X1) jk_no := by
  refine jk_entryH (ls := [some (.ref x), some (jI 15), some (jI a), some (jI b), some (jI c), none]) jm_L_act rfl rfl rfl ?_
  refine jk_iload_n (q := 1) dL_act_0 rfl rfl ?_
  refine jk_tswIn (q := 207) (by decide) dL_act_1 (by decide) rfl rfl ?_
  refine jk_aload_n (q := 208) dL_act_207 rfl rfl ?_
  refine jk_iload_n (q := 209) dL_act_208 rfl rfl ?_
  refine jk_callVC2 (q := 212) (k := 12) (As := [jI a]) (rest := []) K jm_X12_wetColumns jw_1103 rfl hx rfl rfl rfl (Nat.le_refl _) (Nat.le_refl _) dL_act_209 rfl (fun v' n' t' σ' ρ' hq => ?_) (fun E n' t' σ' ρ' hx9 => ?_)
  · obtain ⟨v, rfl⟩ := hQ _ _ _ _ _ hq
    simp only [Option.toList_some, List.cons_append, List.nil_append]
    exact jk_iret rfl dL_act_212 (by exact Or.inl hq)
  · rcases hX _ _ _ _ _ hx9 with rfl | rfl
    · refine ⟨(tableOf hh_L_act).take 15, ⟨207, 212, 268, 57⟩, (tableOf hh_L_act).drop 16, "java/lang/IndexOutOfBoundsException", by first | rfl | decide +kernel, (fun z hz => ?_), by first | rfl | decide, by decide, jw_1617, jw_592, fun a9 => ?_⟩
      · have hall : ((tableOf hh_L_act).take 15).all (fun z => !covers z 209 || (false)) = true := by decide +kernel
        have h9 := List.all_eq_true.mp hall z hz
        simp only [Bool.or_eq_true, Bool.not_eq_true', beq_iff_eq, Bool.false_eq_true, or_false] at h9
        exact Or.inl h9
      · refine jk_astore5 (q := 270) dL_act_268 rfl rfl rfl ?_
        refine jk_ldcV (q := 272) (x := -200001) jw_1636 (by decide) dL_act_270 rfl ?_
        exact jk_iret rfl dL_act_272 (by exact Or.inr ⟨_, hx9, by decide⟩)
    · refine ⟨(tableOf hh_L_act).take 115, ⟨207, 212, 288, 145⟩, (tableOf hh_L_act).drop 116, "java/util/NoSuchElementException", by first | rfl | decide +kernel, (fun z hz => ?_), by first | rfl | decide, by decide, jw_1623, jw_696, fun a9 => ?_⟩
      · have hall : ((tableOf hh_L_act).take 115).all (fun z => !covers z 209 || (z.catchType == 57 || z.catchType == 60 || z.catchType == 63 || z.catchType == 142)) = true := by decide +kernel
        have h9 := List.all_eq_true.mp hall z hz
        simp only [Bool.or_eq_true, Bool.not_eq_true', beq_iff_eq, Bool.false_eq_true, or_false] at h9
        rcases h9 with h9 | (((h9 | h9) | h9) | h9)
        · exact Or.inl h9
        · exact Or.inr ⟨by rw [h9]; decide, "java/lang/IndexOutOfBoundsException", by rw [h9]; exact jw_1617, fun s hs => (hzn s hs).2.2.2.2.2.2⟩
        · exact Or.inr ⟨by rw [h9]; decide, "java/lang/IllegalArgumentException", by rw [h9]; exact jw_1620, fun s hs => (hzn s hs).2.2.2.1⟩
        · exact Or.inr ⟨by rw [h9]; decide, "java/lang/IllegalStateException", by rw [h9]; exact jw_1621, fun s hs => (hzn2 s hs).2.2.1⟩
        · exact Or.inr ⟨by rw [h9]; decide, "java/lang/UnsupportedOperationException", by rw [h9]; exact jw_1622, fun s hs => (hzn2 s hs).2.2.2⟩
      · refine jk_astore5 (q := 290) dL_act_288 rfl rfl rfl ?_
        refine jk_ldcV (q := 292) (x := -200005) jw_1640 (by decide) dL_act_290 rfl ?_
        exact jk_iret rfl dL_act_292 (by exact Or.inr ⟨_, hx9, by decide⟩)
theorem w_act_18 {G : jk_G} {n : Nat} {t : jk_T} {σ : jk_I} {ρ : jk_P} {x mc ms : Nat} {a b c : Int} {Q1 : jk_Q} {X1 : jk_X} (hzn : zn_ok G) (hzn2 : zn2_ok G) (hx : t x = some (.inr 12)) (K : jk_K G yX12_misclosure mX12_misclosure mc ms [.ref x, jI a] n t σ ρ Q1 X1) (hQ : ∀ v' n' t' σ' ρ', Q1 v' n' t' σ' ρ' → ∃ v, v' = some (jI v)) (hX : ∀ E n' t' σ' ρ', X1 E n' t' σ' ρ' → E = "java/lang/IndexOutOfBoundsException" ∨ E = "java/util/NoSuchElementException") : jk_KH G yL_act mL_act hh_L_act mc ms [.ref x, jI 18, jI a, jI b, jI c] n t σ ρ (ac_Q Q1 X1) jk_no := by
  refine jk_entryH (ls := [some (.ref x), some (jI 18), some (jI a), some (jI b), some (jI c), none]) jm_L_act rfl rfl rfl ?_
  refine jk_iload_n (q := 1) dL_act_0 rfl rfl ?_
  refine jk_tswIn (q := 225) (by decide) dL_act_1 (by decide) rfl rfl ?_
  refine jk_aload_n (q := 226) dL_act_225 rfl rfl ?_
  refine jk_iload_n (q := 227) dL_act_226 rfl rfl ?_
  refine jk_callVC2 (q := 230) (k := 12) (As := [jI a]) (rest := []) K jm_X12_misclosure jw_1050 rfl hx rfl rfl rfl (Nat.le_refl _) (Nat.le_refl _) dL_act_227 rfl (fun v' n' t' σ' ρ' hq => ?_) (fun E n' t' σ' ρ' hx9 => ?_)
  · obtain ⟨v, rfl⟩ := hQ _ _ _ _ _ hq
    simp only [Option.toList_some, List.cons_append, List.nil_append]
    exact jk_iret rfl dL_act_230 (by exact Or.inl hq)
  · rcases hX _ _ _ _ _ hx9 with rfl | rfl
    · refine ⟨(tableOf hh_L_act).take 18, ⟨225, 230, 268, 57⟩, (tableOf hh_L_act).drop 19, "java/lang/IndexOutOfBoundsException", by first | rfl | decide +kernel, (fun z hz => ?_), by first | rfl | decide, by decide, jw_1617, jw_592, fun a9 => ?_⟩
      · have hall : ((tableOf hh_L_act).take 18).all (fun z => !covers z 227 || (false)) = true := by decide +kernel
        have h9 := List.all_eq_true.mp hall z hz
        simp only [Bool.or_eq_true, Bool.not_eq_true', beq_iff_eq, Bool.false_eq_true, or_false] at h9
        exact Or.inl h9
      · refine jk_astore5 (q := 270) dL_act_268 rfl rfl rfl ?_
        refine jk_ldcV (q := 272) (x := -200001) jw_1636 (by decide) dL_act_270 rfl ?_
        exact jk_iret rfl dL_act_272 (by exact Or.inr ⟨_, hx9, by decide⟩)
    · refine ⟨(tableOf hh_L_act).take 118, ⟨225, 230, 288, 145⟩, (tableOf hh_L_act).drop 119, "java/util/NoSuchElementException", by first | rfl | decide +kernel, (fun z hz => ?_), by first | rfl | decide, by decide, jw_1623, jw_696, fun a9 => ?_⟩
      · have hall : ((tableOf hh_L_act).take 118).all (fun z => !covers z 227 || (z.catchType == 57 || z.catchType == 60 || z.catchType == 63 || z.catchType == 142)) = true := by decide +kernel
        have h9 := List.all_eq_true.mp hall z hz
        simp only [Bool.or_eq_true, Bool.not_eq_true', beq_iff_eq, Bool.false_eq_true, or_false] at h9
        rcases h9 with h9 | (((h9 | h9) | h9) | h9)
        · exact Or.inl h9
        · exact Or.inr ⟨by rw [h9]; decide, "java/lang/IndexOutOfBoundsException", by rw [h9]; exact jw_1617, fun s hs => (hzn s hs).2.2.2.2.2.2⟩
        · exact Or.inr ⟨by rw [h9]; decide, "java/lang/IllegalArgumentException", by rw [h9]; exact jw_1620, fun s hs => (hzn s hs).2.2.2.1⟩
        · exact Or.inr ⟨by rw [h9]; decide, "java/lang/IllegalStateException", by rw [h9]; exact jw_1621, fun s hs => (hzn2 s hs).2.2.1⟩
        · exact Or.inr ⟨by rw [h9]; decide, "java/lang/UnsupportedOperationException", by rw [h9]; exact jw_1622, fun s hs => (hzn2 s hs).2.2.2⟩
      · refine jk_astore5 (q := 290) dL_act_288 rfl rfl rfl ?_
        refine jk_ldcV (q := 292) (x := -200005) jw_1640 (by decide) dL_act_290 rfl ?_
        exact jk_iret rfl dL_act_292 (by exact Or.inr ⟨_, hx9, by decide⟩)
theorem w_act_22 {G : jk_G} {n : Nat} {t : jk_T} {σ : jk_I} {ρ : jk_P} {x mc ms : Nat} {a b c : Int} {Q1 : jk_Q} {X1 : jk_X} (hzn : zn_ok G) (hzn2 : zn2_ok G) (hx : t x = some (.inr 12)) (K : jk_K G yX12_discrepancy mX12_discrepancy mc ms [.ref x, jI a] n t σ ρ Q1 X1) (hQ : ∀ v' n' t' σ' ρ', Q1 v' n' t' σ' ρ' → ∃ v, v' = some (jI v)) (hX : ∀ E n' t' σ' ρ', X1 E n' t' σ' ρ' → E = "java/lang/IndexOutOfBoundsException" ∨ E = "java/util/NoSuchElementException") : jk_KH G yL_act mL_act hh_L_act mc ms [.ref x, jI 22, jI a, jI b, jI c] n t σ ρ (ac_Q Q1 X1) jk_no := by
  refine jk_entryH (ls := [some (.ref x), some (jI 22), some (jI a), some (jI b), some (jI c), none]) jm_L_act rfl rfl rfl ?_
  refine jk_iload_n (q := 1) dL_act_0 rfl rfl ?_
  refine jk_tswIn (q := 249) (by decide) dL_act_1 (by decide) rfl rfl ?_
  refine jk_aload_n (q := 250) dL_act_249 rfl rfl ?_
  refine jk_iload_n (q := 251) dL_act_250 rfl rfl ?_
  refine jk_callVC2 (q := 254) (k := 12) (As := [jI a]) (rest := []) K jm_X12_discrepancy jw_955 rfl hx rfl rfl rfl (Nat.le_refl _) (Nat.le_refl _) dL_act_251 rfl (fun v' n' t' σ' ρ' hq => ?_) (fun E n' t' σ' ρ' hx9 => ?_)
  · obtain ⟨v, rfl⟩ := hQ _ _ _ _ _ hq
    simp only [Option.toList_some, List.cons_append, List.nil_append]
    exact jk_iret rfl dL_act_254 (by exact Or.inl hq)
  · rcases hX _ _ _ _ _ hx9 with rfl | rfl
    · refine ⟨(tableOf hh_L_act).take 22, ⟨249, 254, 268, 57⟩, (tableOf hh_L_act).drop 23, "java/lang/IndexOutOfBoundsException", by first | rfl | decide +kernel, (fun z hz => ?_), by first | rfl | decide, by decide, jw_1617, jw_592, fun a9 => ?_⟩
      · have hall : ((tableOf hh_L_act).take 22).all (fun z => !covers z 251 || (false)) = true := by decide +kernel
        have h9 := List.all_eq_true.mp hall z hz
        simp only [Bool.or_eq_true, Bool.not_eq_true', beq_iff_eq, Bool.false_eq_true, or_false] at h9
        exact Or.inl h9
      · refine jk_astore5 (q := 270) dL_act_268 rfl rfl rfl ?_
        refine jk_ldcV (q := 272) (x := -200001) jw_1636 (by decide) dL_act_270 rfl ?_
        exact jk_iret rfl dL_act_272 (by exact Or.inr ⟨_, hx9, by decide⟩)
    · refine ⟨(tableOf hh_L_act).take 122, ⟨249, 254, 288, 145⟩, (tableOf hh_L_act).drop 123, "java/util/NoSuchElementException", by first | rfl | decide +kernel, (fun z hz => ?_), by first | rfl | decide, by decide, jw_1623, jw_696, fun a9 => ?_⟩
      · have hall : ((tableOf hh_L_act).take 122).all (fun z => !covers z 251 || (z.catchType == 57 || z.catchType == 60 || z.catchType == 63 || z.catchType == 142)) = true := by decide +kernel
        have h9 := List.all_eq_true.mp hall z hz
        simp only [Bool.or_eq_true, Bool.not_eq_true', beq_iff_eq, Bool.false_eq_true, or_false] at h9
        rcases h9 with h9 | (((h9 | h9) | h9) | h9)
        · exact Or.inl h9
        · exact Or.inr ⟨by rw [h9]; decide, "java/lang/IndexOutOfBoundsException", by rw [h9]; exact jw_1617, fun s hs => (hzn s hs).2.2.2.2.2.2⟩
        · exact Or.inr ⟨by rw [h9]; decide, "java/lang/IllegalArgumentException", by rw [h9]; exact jw_1620, fun s hs => (hzn s hs).2.2.2.1⟩
        · exact Or.inr ⟨by rw [h9]; decide, "java/lang/IllegalStateException", by rw [h9]; exact jw_1621, fun s hs => (hzn2 s hs).2.2.1⟩
        · exact Or.inr ⟨by rw [h9]; decide, "java/lang/UnsupportedOperationException", by rw [h9]; exact jw_1622, fun s hs => (hzn2 s hs).2.2.2⟩
      · refine jk_astore5 (q := 290) dL_act_288 rfl rfl rfl ?_
        refine jk_ldcV (q := 292) (x := -200005) jw_1640 (by decide) dL_act_290 rfl ?_
        exact jk_iret rfl dL_act_292 (by exact Or.inr ⟨_, hx9, by decide⟩)
theorem w_line {G : jk_G} {n : Nat} {t : jk_T} {σ : jk_I} {ρ : jk_P} {x mc ms : Nat} {a b c d : Int} {Q1 : jk_Q} {X1 : jk_X} (hzn : zn_ok G) (hzn2 : zn2_ok G) (hx : t x = some (.inr 12)) (K : jk_K G yX12_addLine mX12_addLine mc ms [.ref x, jI a, jI b, jI c, jI d] n t σ ρ Q1 X1) (hQ : ∀ v' n' t' σ' ρ', Q1 v' n' t' σ' ρ' → ∃ v, v' = some (jI v)) (hX : ∀ E n' t' σ' ρ', X1 E n' t' σ' ρ' → E = "java/lang/IndexOutOfBoundsException" ∨ E = "java/lang/IllegalArgumentException" ∨ E = "java/lang/IllegalStateException") : jk_KH G yL_line mL_line hh_L_line mc ms [.ref x, jI a, jI b, jI c, jI d] n t σ ρ (ac_Q Q1 X1) jk_no := by
  refine jk_entryH (ls := [some (.ref x), some (jI a), some (jI b), some (jI c), some (jI d), none]) jm_L_line rfl rfl rfl ?_
  refine jk_aload_n (q := 1) dL_line_0 rfl rfl ?_
  refine jk_iload_n (q := 2) dL_line_1 rfl rfl ?_
  refine jk_iload_n (q := 3) dL_line_2 rfl rfl ?_
  refine jk_iload_n (q := 4) dL_line_3 rfl rfl ?_
  refine jk_iload (q := 6) dL_line_4 rfl rfl ?_
  refine jk_callVC2 (q := 9) (k := 12) (As := [jI a, jI b, jI c, jI d]) (rest := []) K jm_X12_addLine jw_1644 rfl hx rfl rfl rfl (Nat.le_refl _) (Nat.le_refl _) dL_line_6 rfl (fun v' n' t' σ' ρ' hq => ?_) (fun E n' t' σ' ρ' hx9 => ?_)
  · obtain ⟨v, rfl⟩ := hQ _ _ _ _ _ hq
    simp only [Option.toList_some, List.cons_append, List.nil_append]
    exact jk_iret rfl dL_line_9 (by exact Or.inl hq)
  · rcases hX _ _ _ _ _ hx9 with rfl | rfl | rfl
    · refine ⟨(tableOf hh_L_line).take 0, ⟨0, 9, 10, 57⟩, (tableOf hh_L_line).drop 1, "java/lang/IndexOutOfBoundsException", by first | rfl | decide +kernel, (fun z hz => ?_), by first | rfl | decide, by decide, jw_1617, jw_592, fun a9 => ?_⟩
      · have hall : ((tableOf hh_L_line).take 0).all (fun z => !covers z 6 || (false)) = true := by decide +kernel
        have h9 := List.all_eq_true.mp hall z hz
        simp only [Bool.or_eq_true, Bool.not_eq_true', beq_iff_eq, Bool.false_eq_true, or_false] at h9
        exact Or.inl h9
      · refine jk_astore5 (q := 12) dL_line_10 rfl rfl rfl ?_
        refine jk_ldcV (q := 14) (x := -200001) jw_1636 (by decide) dL_line_12 rfl ?_
        exact jk_iret rfl dL_line_14 (by exact Or.inr ⟨_, hx9, by decide⟩)
    · refine ⟨(tableOf hh_L_line).take 1, ⟨0, 9, 15, 60⟩, (tableOf hh_L_line).drop 2, "java/lang/IllegalArgumentException", by first | rfl | decide +kernel, (fun z hz => ?_), by first | rfl | decide, by decide, jw_1620, jw_664, fun a9 => ?_⟩
      · have hall : ((tableOf hh_L_line).take 1).all (fun z => !covers z 6 || (z.catchType == 57)) = true := by decide +kernel
        have h9 := List.all_eq_true.mp hall z hz
        simp only [Bool.or_eq_true, Bool.not_eq_true', beq_iff_eq, Bool.false_eq_true, or_false] at h9
        rcases h9 with h9 | h9
        · exact Or.inl h9
        · exact Or.inr ⟨by rw [h9]; decide, "java/lang/IndexOutOfBoundsException", by rw [h9]; exact jw_1617, fun s hs => (hzn s hs).2.2.2.2.1⟩
      · refine jk_astore5 (q := 17) dL_line_15 rfl rfl rfl ?_
        refine jk_ldcV (q := 19) (x := -200002) jw_1637 (by decide) dL_line_17 rfl ?_
        exact jk_iret rfl dL_line_19 (by exact Or.inr ⟨_, hx9, by decide⟩)
    · refine ⟨(tableOf hh_L_line).take 2, ⟨0, 9, 20, 63⟩, (tableOf hh_L_line).drop 3, "java/lang/IllegalStateException", by first | rfl | decide +kernel, (fun z hz => ?_), by first | rfl | decide, by decide, jw_1621, jw_680, fun a9 => ?_⟩
      · have hall : ((tableOf hh_L_line).take 2).all (fun z => !covers z 6 || (z.catchType == 57 || z.catchType == 60)) = true := by decide +kernel
        have h9 := List.all_eq_true.mp hall z hz
        simp only [Bool.or_eq_true, Bool.not_eq_true', beq_iff_eq, Bool.false_eq_true, or_false] at h9
        rcases h9 with h9 | (h9 | h9)
        · exact Or.inl h9
        · exact Or.inr ⟨by rw [h9]; decide, "java/lang/IndexOutOfBoundsException", by rw [h9]; exact jw_1617, fun s hs => (hzn s hs).1⟩
        · exact Or.inr ⟨by rw [h9]; decide, "java/lang/IllegalArgumentException", by rw [h9]; exact jw_1620, fun s hs => (hzn s hs).2.2.2.2.2.1⟩
      · refine jk_astore5 (q := 22) dL_line_20 rfl rfl rfl ?_
        refine jk_ldcV (q := 24) (x := -200003) jw_1638 (by decide) dL_line_22 rfl ?_
        exact jk_iret rfl dL_line_24 (by exact Or.inr ⟨_, hx9, by decide⟩)
def ru_Q (Q1 : jk_Q) (X1 : jk_X) : jk_Q := fun v' n' t' σ' ρ' => Q1 v' n' t' σ' ρ' ∨ ∃ E, X1 E n' t' σ' ρ' ∧ v' = some (jI (if E = "java/lang/IllegalArgumentException" then -1 else -2))
theorem w_runs {G : jk_G} {n : Nat} {t : jk_T} {σ : jk_I} {ρ : jk_P} {x mc ms : Nat} {Q1 : jk_Q} {X1 : jk_X} (hzn : zn_ok G) (hzn2 : zn2_ok G) (hx : t x = some (.inr 12)) (K : jk_K G yX12_runScript mX12_runScript mc ms [.ref x] n t σ ρ Q1 X1) (hQ : ∀ v' n' t' σ' ρ', Q1 v' n' t' σ' ρ' → ∃ v, v' = some (jI v)) (hX : ∀ E n' t' σ' ρ', X1 E n' t' σ' ρ' → E = "java/lang/IllegalArgumentException" ∨ E = "java/lang/IllegalStateException") : jk_KH G yL_runs mL_runs hh_L_runs mc ms [.ref x] n t σ ρ (ru_Q Q1 X1) jk_no := by
  refine jk_entryH (ls := [some (.ref x), none]) jm_L_runs rfl rfl rfl ?_
  refine jk_aload_n (q := 1) dL_runs_0 rfl rfl ?_
  refine jk_callVC2 (q := 4) (k := 12) (As := []) (rest := []) K jm_X12_runScript jw_1503 rfl hx rfl rfl rfl (Nat.le_refl _) (Nat.le_refl _) dL_runs_1 rfl (fun v' n' t' σ' ρ' hq => ?_) (fun E n' t' σ' ρ' hx9 => ?_)
  · obtain ⟨v, rfl⟩ := hQ _ _ _ _ _ hq
    simp only [Option.toList_some, List.cons_append, List.nil_append]
    exact jk_iret rfl dL_runs_4 (by exact Or.inl hq)
  · rcases hX _ _ _ _ _ hx9 with rfl | rfl
    · refine ⟨(tableOf hh_L_runs).take 0, ⟨0, 4, 5, 60⟩, (tableOf hh_L_runs).drop 1, "java/lang/IllegalArgumentException", by first | rfl | decide +kernel, (fun z hz => ?_), by first | rfl | decide, by decide, jw_1620, jw_664, fun a9 => ?_⟩
      · have hall : ((tableOf hh_L_runs).take 0).all (fun z => !covers z 1 || (false)) = true := by decide +kernel
        have h9 := List.all_eq_true.mp hall z hz
        simp only [Bool.or_eq_true, Bool.not_eq_true', beq_iff_eq, Bool.false_eq_true, or_false] at h9
        exact Or.inl h9
      · refine jk_astore1 (q := 6) dL_runs_5 rfl rfl rfl ?_
        refine jk_iconst (q := 7) dL_runs_6 rfl ?_
        exact jk_iret rfl dL_runs_7 (by exact Or.inr ⟨_, hx9, by decide⟩)
    · refine ⟨(tableOf hh_L_runs).take 1, ⟨0, 4, 8, 63⟩, (tableOf hh_L_runs).drop 2, "java/lang/IllegalStateException", by first | rfl | decide +kernel, (fun z hz => ?_), by first | rfl | decide, by decide, jw_1621, jw_680, fun a9 => ?_⟩
      · have hall : ((tableOf hh_L_runs).take 1).all (fun z => !covers z 1 || (z.catchType == 60)) = true := by decide +kernel
        have h9 := List.all_eq_true.mp hall z hz
        simp only [Bool.or_eq_true, Bool.not_eq_true', beq_iff_eq, Bool.false_eq_true, or_false] at h9
        rcases h9 with h9 | h9
        · exact Or.inl h9
        · exact Or.inr ⟨by rw [h9]; decide, "java/lang/IllegalArgumentException", by rw [h9]; exact jw_1620, fun s hs => (hzn s hs).2.2.2.2.2.1⟩
      · refine jk_astore1 (q := 9) dL_runs_8 rfl rfl rfl ?_
        refine jk_bipush (q := 11) (y := -2) dL_runs_9 rfl (by decide) ?_
        exact jk_iret rfl dL_runs_11 (by exact Or.inr ⟨_, hx9, by decide⟩)
end PD
