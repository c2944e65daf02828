section JC
variable {G : jk_G} {M : jk_M} {pc q : Nat} {ls : List (Option Value)} {st : List Value} {n : Nat} {t : jk_T} {σ σ' : jk_I} {ρ ρ' : jk_P} {rc rs : Nat} {Q : jk_Q} {X : jk_X}
theorem jk_alike {u : State} : u.vm.Alike u.vm := Vm.Alike.refl _
theorem jk_blind {As : List Value} : FrameBlind (fun (a : Array Value) (s : State) => a = (As.map (jk_re G)).toArray ∧ jk_ok G ∧ jk_Z G s ∧ jk_b G ≤ s.heap.size ∧ jk_R G s s.heap n t σ ρ) :=
  fun a U g mk h => ⟨h.1, h.2.1, h.2.1.2 U (U.calling g mk a) (State.WarmedH.refl U) (fun _ _ => rfl) h.2.2.1, h.2.2.2.1, jk_R_moved (u := U) jk_alike h.2.2.2.2⟩
theorem jk_Zat {s U : State} {H : Heap} {locs : List Loc} (hok : jk_ok G) (hZ : jk_Z G s) (hb : jk_b G ≤ s.heap.size) (hS : va_S (jk_A G) s.heap H locs) (hU : U.heap = H) (hW : s.WarmedH U.vm) : jk_Z G U :=
  hok.2 s U hW (fun q hq => by rw [hU]; exact hS.2.1 q (Nat.lt_of_lt_of_le hq hb) (fun h => Nat.not_le.mpr hq h)) hZ
theorem jk_catsum (l : List Value) : ((l.map (jk_re G)).map fun v => v.category).sum ≤ 2 * l.length := by
  induction l with
  | nil => exact Nat.le_refl _
  | cons a l ih =>
    simp only [List.map_cons, List.sum_cons, List.length_cons]
    have : (jk_re G a).category ≤ 2 := by cases a <;> simp [jk_re, Value.category]
    omega
/-- behind a call -/
theorem jk_behind {p : Program} {e : Env} {R : Room} {s : State} {m : MethodId} {args : Array Value} {below : List Frame} {meth : Method} {c : Code} {H : Heap} {locs : List Loc} {cells slots : Nat} {ls' : Array Slot} {mc ms rc' rs' : Nat} {st0 : List Value} {rest : List Value} {Q1 : jk_Q} {X1 : jk_X} {a : Array Value}
    (hr : vx_Run p (jk_l G) e R s m args below meth c H locs cells slots mc ms (F0 m pc ls' st0) (rest.map (jk_re G)) (jk_QC G Q1 a) (jk_XC G X1) (jk_A G))
    (C : jk_C G M p R s m args meth c) (hl : jk_L G (jk_nL M) ls ls') (hS : va_S (jk_A G) s.heap H locs) (hc : cells + mc + rc' ≤ R.cells) (hs : slots + ms + rs' ≤ R.slots)
    (htb : ∀ x ∈ jk_tb M, covers x pc = false)
    (kk : ∀ v n' t' σ' ρ', Q1 v n' t' σ' ρ' → jk_J G M (pc + 3) ls (v.toList ++ rest) n' t' σ' ρ' rc' rs' Q X) (kx : ∀ E n' t' σ' ρ', X1 E n' t' σ' ρ' → X E n' t' σ' ρ') :
    W p (jk_l G) e R s m args below meth c H locs cells slots (vx_MQ below (jk_QC G Q) (jk_XC G X) args s R.cells R.slots (jk_A G)) (F0 m pc ls' st0) := by
  intro T hT Xs
  rcases hr T hT Xs with ⟨v, st₀, t0, T', L, h0, X', hL, e1, e2, ⟨v', n', t', σ', ρ', hv, hQ, hR', hF⟩, stp⟩ | ⟨q0, st₀, t0, T', L, E, ce, h0, X', hL, e1, e2, ⟨n', t', σ', ρ', hX, hR', hF⟩, hce, hcv, hcl, stp⟩
  · cases hv
    obtain ⟨k1, k2, k3⟩ := vx_keep h0 e1 hS (fun _ _ h => h) (fun _ h => h) hL hF
    have ha : t0.vm.Alike s.vm := by rw [← e2]; exact (X'.warmed.alike).symm
    have hR2 : jk_R G s T'.heap n' t' σ' ρ' := by rw [e1]; exact jk_R_moved ha hR'
    obtain ⟨t2, a1, b1⟩ := kk v' n' t' σ' ρ' hQ p e R s m args below meth c T'.heap (locs ++ L) (cells + mc) (slots + ms) ls' C hl hR2 k3 hc hs T' rfl X'
    refine ⟨t2, stp t2 ?_, b1⟩
    have e3 : (v'.map (jk_re G)).toList ++ rest.map (jk_re G) = (v'.toList ++ rest).map (jk_re G) := by cases v' <;> simp
    show Steps p.tables e below (T'.setTop { F0 m pc ls' st0 with pc := pc + 3, stack := (v'.map (jk_re G)).toList ++ rest.map (jk_re G) }) t2
    rw [e3]
    exact a1
  · obtain ⟨k1, k2, k3⟩ := vx_keep h0 e1 hS (fun _ _ h => h) (fun _ h => h) hL hF
    obtain ⟨t2, a1, b1⟩ := vx_out (p := p) (l := jk_l G) (e := e) (R := R) (H := T'.heap) (cells := cells + mc) (slots := slots + ms) (args := args) (m := m) (ls := ls') (rest := rest.map (jk_re G)) (pc := pc) (Qc := jk_QC G Q) (XC := jk_XC G X) (below := below) (mc := R.cells) (ms := R.slots) (free := jk_A G) (E := E) (ce := ce) (q := q0) (by rw [C.2.2.2.2.2.2.2.1]; exact htb) C.2.2.2.2.1 (by rw [e1]; exact hce) hcv hcl
      (fun u hu hal => ⟨n', t', σ', ρ', kx E n' t' σ' ρ' hX, by rw [hu, e1]; exact jk_R_moved (u := t0) (by rw [← e2]; exact (X'.warmed.alike).symm.trans hal) hR', k3.F hu⟩) k3.2.2 (by omega) (by omega) T' rfl X'
    exact ⟨t2, stp.trans a1, b1⟩
def jk_me (y : MethodName) (M1 : jk_M) (na : Nat) : Prop := Cond.code y (jk_cc M1) (jk_nL M1) (jk_rt M1) ∈ jk_WS ∧ Cond.initialized y.cls ∈ jk_WS ∧ (y.cls ≠ "java/lang/invoke/MethodHandle" ∧ y.cls ≠ "java/lang/invoke/VarHandle") ∧
  (parseMethodDescriptor y.desc).map (fun d => d.parameters.length) = some na ∧ plainName y.cls = true ∧ jk_own M1 = y.cls ∧ jk_nL M1 ≤ 45 ∧ (jk_ini M1 = true → y.name = "<init>") ∧ jk_tb M1 = []
def jk_mV (y : MethodName) (M1 : jk_M) (na : Nat) : Prop := jk_me y M1 na ∧ Cond.instanceMethod y ∈ jk_WS ∧ Cond.selects y.cls y y ∈ jk_WS
def jk_mS (y : MethodName) (M1 : jk_M) (na : Nat) : Prop := jk_me y M1 na ∧ Cond.static y ∈ jk_WS
def jk_mI (y : MethodName) (M1 : jk_M) (na : Nat) : Prop := jk_me y M1 na ∧ y.name = "<init>" ∧ Cond.instanceMethod y ∈ jk_WS ∧ jk_rt M1 = none
theorem jk_callB {y : MethodName} {M1 : jk_M} {na index mc ms : Nat} {p : Program} {R : Room} {s : State} {m : MethodId} {args : Array Value} {meth : Method} {c : Code} (C : jk_C G M p R s m args meth c) (hm : jk_me y M1 na) (hw : Cond.methodLink (jk_own M) index y ∈ jk_WS) (hdep : jk_d M1 + 1 ≤ jk_d M) :
    CallB R s args (jk_own M) index y (jk_cc M1) (jk_nL M1) (jk_rt M1) (Cond.code y (jk_cc M1) (jk_nL M1) (jk_rt M1) :: jk_WS) ({ frames := jk_d M1, cells := mc, slots := ms, locals := 64 * jk_d M1 } : Room) mc ms na := by
  obtain ⟨h1, h2, h3, h4, h5, h6, h7, h8⟩ := hm
  have hts := C.2.2.2.2.2.2.1
  have hd1 := C.2.2.2.2.2.2.2.2.2.1
  have hd2 := C.2.2.2.2.2.2.2.2.2.2.1
  refine ⟨rfl, rfl, ?_, ?_, ?_, List.mem_cons_self, hts _ h1, hts _ h2, h3, ?_, hts _ hw⟩
  · show jk_d M1 + 1 ≤ R.frames; omega
  · show 8 + (jk_nL M1 + 11) + 64 * jk_d M1 ≤ R.locals; omega
  · intro w hw a' U hW
    rcases List.mem_cons.mp hw with rfl | hw
    · exact jk_kw_warm (jk_ws_kw h1) hW (hts _ h1)
    · exact jk_kw_warm (jk_ws_kw hw) hW (hts _ hw)
  · intro sig h
    rw [h] at h4
    exact (Option.some.inj h4).symm
theorem jk_callB0 {y : MethodName} {M1 : jk_M} {na index mc ms : Nat} {p : Program} {R : Room} {s : State} {m : MethodId} {args : Array Value} {meth : Method} {c : Code} (C : jk_C G M p R s m args meth c) (hm : jk_mI y M1 na) (hw : Cond.methodLink (jk_own M) index y ∈ jk_WS) (hdep : jk_d M1 + 1 ≤ jk_d M) :
    CallB R s args (jk_own M) index y (jk_cc M1) (jk_nL M1) none (Cond.code y (jk_cc M1) (jk_nL M1) (jk_rt M1) :: jk_WS) ({ frames := jk_d M1, cells := mc, slots := ms, locals := 64 * jk_d M1 } : Room) mc ms na := by
  have h := jk_callB (mc := mc) (ms := ms) C hm.1 hw hdep
  have e := hm.2.2.2
  rw [e] at h ⊢
  exact h
theorem jk_recv {U : State} {H : Heap} {b k : Nat} (hR : jk_R G U H n t σ ρ) (ht : t b = some (.inr k)) : ∃ cellB : Cell, H[jk_ad G b]? = some cellB ∧ cellB.vm.isStatics = false ∧ U.vm.findClass (jk_cl k).1 = some cellB.cls := by
  have hcell := hR.2.2.2 b
  rw [ht] at hcell
  obtain ⟨h6, han, hae, cC, iS, ⟨hF, hfc, -⟩, cell, q1, q2, q3, q4⟩ := hcell
  exact ⟨cell, q1, by rw [q3]; rfl, by rw [q2]; exact hfc⟩
theorem jk_fsz {ls' : Array Slot} {nL : Nat} (hl : jk_L G nL ls ls') : ls'.size = nL := by obtain ⟨l, h, -⟩ := hl; exact h.1
theorem jk_callV {y : MethodName} {M1 : jk_M} {mc ms index na : Nat} {b k : Nat} {As rest : List Value} {Q1 : jk_Q} {X1 : jk_X} (hK : jk_K G y M1 mc ms (.ref b :: As) n t σ ρ Q1 X1) (hm : jk_mV y M1 na) (hw : Cond.methodLink (jk_own M) index y ∈ jk_WS) (hcl : (jk_cl k).1 = y.cls) (ht : t b = some (.inr k)) (hna : As.length = na) (hdep : jk_d M1 + 1 ≤ jk_d M) (hlen : rest.length ≤ 4) (hmc : mc ≤ rc) (hms : ms ≤ rs) (htb : ∀ x ∈ jk_tb M, covers x pc = false)
    (hd : decode (jk_cc M) pc = .ok (.invokevirtual index, 3)) (hp : pc + 3 = q) (kk : ∀ v n' t' σ' ρ', Q1 v n' t' σ' ρ' → jk_J G M q ls (v.toList ++ rest) n' t' σ' ρ' (rc - mc) (rs - ms) Q X) (kx : ∀ E n' t' σ' ρ', X1 E n' t' σ' ρ' → X E n' t' σ' ρ') : jk_J G M pc ls (As.reverse ++ .ref b :: rest) n t σ ρ rc rs Q X := by
  subst hp
  intro p e R s m args below meth c H locs cells slots ls' C hl hR hS hc hs
  have hts := C.2.2.2.2.2.2.1
  have hok := C.2.2.2.2.2.2.2.2.2.2.2.1
  have hZ := C.2.2.2.2.2.2.2.2.2.2.2.2.1
  have hb0 := C.2.2.2.2.2.2.2.2.2.2.2.2.2
  refine jk_behind (M := M) (mc := mc) (ms := ms) (rc' := rc - mc) (rs' := rs - ms) (rest := rest) (Q1 := Q1) (X1 := X1) (vx_runV (As := As.map (jk_re G)) (C := (jk_cl k).1) (own := jk_own M) (cc := jk_cc M) (nL := jk_nL M) (Ts := jk_WS) (n := na) ⟨C.1, C.2.1, C.2.2.1, C.2.2.2.2.2.1, hts⟩ hK ⟨jk_callB C hm.1 hw hdep, hts _ hm.2.1, by rw [hcl]; exact hts _ hm.2.2⟩ ⟨jk_blind, jk_recv hR ht, fun U hU hW => ⟨rfl, hok, jk_Zat hok hZ hb0 hS hU hW, by rw [hU]; exact Nat.le_trans hb0 hS.1, by rw [hU]; exact jk_R_moved hW.alike hR⟩⟩ rfl (by rw [List.length_map]; exact hna) (jk_fsz hl) (by simp [F0, jk_re]) ?_ hd ⟨by omega, by omega⟩) C hl hS (by omega) (by omega) htb kk kx
  exact lv_room (Nat.le_trans (jk_catsum rest) (by omega))
theorem jk_callS {y : MethodName} {M1 : jk_M} {mc ms index na : Nat} {As rest : List Value} {Q1 : jk_Q} {X1 : jk_X} (hK : jk_K G y M1 mc ms As n t σ ρ Q1 X1) (hm : jk_mS y M1 na) (hw : Cond.methodLink (jk_own M) index y ∈ jk_WS) (hna : As.length = na) (hdep : jk_d M1 + 1 ≤ jk_d M) (hlen : rest.length ≤ 4) (hmc : mc ≤ rc) (hms : ms ≤ rs) (htb : ∀ x ∈ jk_tb M, covers x pc = false)
    (hd : decode (jk_cc M) pc = .ok (.invokestatic index, 3)) (hp : pc + 3 = q) (kk : ∀ v n' t' σ' ρ', Q1 v n' t' σ' ρ' → jk_J G M q ls (v.toList ++ rest) n' t' σ' ρ' (rc - mc) (rs - ms) Q X) (kx : ∀ E n' t' σ' ρ', X1 E n' t' σ' ρ' → X E n' t' σ' ρ') : jk_J G M pc ls (As.reverse ++ rest) n t σ ρ rc rs Q X := by
  subst hp
  intro p e R s m args below meth c H locs cells slots ls' C hl hR hS hc hs
  have hts := C.2.2.2.2.2.2.1
  have hok := C.2.2.2.2.2.2.2.2.2.2.2.1
  have hZ := C.2.2.2.2.2.2.2.2.2.2.2.2.1
  have hb0 := C.2.2.2.2.2.2.2.2.2.2.2.2.2
  refine jk_behind (M := M) (mc := mc) (ms := ms) (rc' := rc - mc) (rs' := rs - ms) (rest := rest) (Q1 := Q1) (X1 := X1) (vx_runS (As := As.map (jk_re G)) (own := jk_own M) (cc := jk_cc M) (nL := jk_nL M) (Ts := jk_WS) (n := na) ⟨C.1, C.2.1, C.2.2.1, C.2.2.2.2.2.1, hts⟩ hK ⟨jk_callB C hm.1 hw hdep, hts _ hm.2⟩ ⟨jk_blind, fun U hU hW => ⟨rfl, hok, jk_Zat hok hZ hb0 hS hU hW, by rw [hU]; exact Nat.le_trans hb0 hS.1, by rw [hU]; exact jk_R_moved hW.alike hR⟩⟩ rfl (by rw [List.length_map]; exact hna) (jk_fsz hl) (by simp [F0, jk_re]) ?_ hd ⟨by omega, by omega⟩) C hl hS (by omega) (by omega) htb kk kx
  exact lv_room (Nat.le_trans (jk_catsum rest) (by omega))
theorem jk_callI {y : MethodName} {M1 : jk_M} {mc ms index na : Nat} {b : Nat} {As rest : List Value} {Q1 : jk_Q} {X1 : jk_X} (hK : jk_K G y M1 mc ms (.ref b :: As) n t σ ρ Q1 X1) (hm : jk_mI y M1 na) (hw : Cond.methodLink (jk_own M) index y ∈ jk_WS) (hna : As.length = na) (hdep : jk_d M1 + 1 ≤ jk_d M) (hlen : rest.length ≤ 4) (hmc : mc ≤ rc) (hms : ms ≤ rs) (htb : ∀ x ∈ jk_tb M, covers x pc = false)
    (hd : decode (jk_cc M) pc = .ok (.invokespecial index, 3)) (hp : pc + 3 = q) (kk : ∀ v n' t' σ' ρ', Q1 v n' t' σ' ρ' → jk_J G M q ls (v.toList ++ rest) n' t' σ' ρ' (rc - mc) (rs - ms) Q X) (kx : ∀ E n' t' σ' ρ', X1 E n' t' σ' ρ' → X E n' t' σ' ρ') : jk_J G M pc ls (As.reverse ++ .ref b :: rest) n t σ ρ rc rs Q X := by
  subst hp
  intro p e R s m args below meth c H locs cells slots ls' C hl hR hS hc hs
  have hts := C.2.2.2.2.2.2.1
  have hok := C.2.2.2.2.2.2.2.2.2.2.2.1
  have hZ := C.2.2.2.2.2.2.2.2.2.2.2.2.1
  have hb0 := C.2.2.2.2.2.2.2.2.2.2.2.2.2
  refine jk_behind (M := M) (mc := mc) (ms := ms) (rc' := rc - mc) (rs' := rs - ms) (rest := rest) (Q1 := Q1) (X1 := X1) (vx_runI (As := As.map (jk_re G)) (own := jk_own M) (cc := jk_cc M) (nL := jk_nL M) (Ts := jk_WS) (n := na) ⟨C.1, C.2.1, C.2.2.1, C.2.2.2.2.2.1, hts⟩ hK ⟨jk_callB0 C hm hw hdep, hm.2.1, hts _ hm.2.2.1⟩ ⟨jk_blind, fun U hU hW => ⟨rfl, hok, jk_Zat hok hZ hb0 hS hU hW, by rw [hU]; exact Nat.le_trans hb0 hS.1, by rw [hU]; exact jk_R_moved hW.alike hR⟩⟩ rfl (by rw [List.length_map]; exact hna) (jk_fsz hl) (by simp [F0, jk_re]) ?_ hd ⟨by omega, by omega⟩) C hl hS (by omega) (by omega) htb kk kx
  exact lv_room (Nat.le_trans (jk_catsum rest) (by omega))
theorem jk_callCN {y : MethodName} {M1 : jk_M} {na index mc ms : Nat} {host : String} {p : Program} {R : Room} {s : State} {m : MethodId} {args : Array Value} {meth : Method} {c : Code} (C : jk_C G M p R s m args meth c) (hm : jk_me y M1 na) (hw : Cond.methodLinkNest (jk_own M) index y host ∈ jk_WS) (hdep : jk_d M1 + 1 ≤ jk_d M) :
    va_CN R s args (jk_own M) index y host (jk_cc M1) (jk_nL M1) (jk_rt M1) (Cond.code y (jk_cc M1) (jk_nL M1) (jk_rt M1) :: jk_WS) ({ frames := jk_d M1, cells := mc, slots := ms, locals := 64 * jk_d M1 } : Room) mc ms na := by
  obtain ⟨h1, h2, h3, h4, h5, h6, h7, h8⟩ := hm
  have hts := C.2.2.2.2.2.2.1
  have hd1 := C.2.2.2.2.2.2.2.2.2.1
  have hd2 := C.2.2.2.2.2.2.2.2.2.2.1
  refine ⟨⟨rfl, rfl, ?_, ?_, ?_, List.mem_cons_self⟩, hts _ h1, hts _ h2, h3, ?_, hts _ hw⟩
  · show jk_d M1 + 1 ≤ R.frames; omega
  · show 8 + (jk_nL M1 + 11) + 64 * jk_d M1 ≤ R.locals; omega
  · intro w hw a' U hW
    rcases List.mem_cons.mp hw with rfl | hw
    · exact jk_kw_warm (jk_ws_kw h1) hW (hts _ h1)
    · exact jk_kw_warm (jk_ws_kw hw) hW (hts _ hw)
  · intro sig h
    rw [h] at h4
    exact (Option.some.inj h4).symm
theorem jk_callCN0 {y : MethodName} {M1 : jk_M} {na index mc ms : Nat} {host : String} {p : Program} {R : Room} {s : State} {m : MethodId} {args : Array Value} {meth : Method} {c : Code} (C : jk_C G M p R s m args meth c) (hm : jk_mI y M1 na) (hw : Cond.methodLinkNest (jk_own M) index y host ∈ jk_WS) (hdep : jk_d M1 + 1 ≤ jk_d M) :
    va_CN R s args (jk_own M) index y host (jk_cc M1) (jk_nL M1) none (Cond.code y (jk_cc M1) (jk_nL M1) (jk_rt M1) :: jk_WS) ({ frames := jk_d M1, cells := mc, slots := ms, locals := 64 * jk_d M1 } : Room) mc ms na := by
  have h := jk_callCN (mc := mc) (ms := ms) C hm.1 hw hdep
  have e := hm.2.2.2
  rw [e] at h ⊢
  exact h
theorem jk_callSN {y : MethodName} {M1 : jk_M} {host : String} {mc ms index na : Nat} {As rest : List Value} {Q1 : jk_Q} {X1 : jk_X} (hK : jk_K G y M1 mc ms As n t σ ρ Q1 X1) (hm : jk_mS y M1 na) (hw : Cond.methodLinkNest (jk_own M) index y host ∈ jk_WS) (hna : As.length = na) (hdep : jk_d M1 + 1 ≤ jk_d M) (hlen : rest.length ≤ 4) (hmc : mc ≤ rc) (hms : ms ≤ rs) (htb : ∀ x ∈ jk_tb M, covers x pc = false)
    (hd : decode (jk_cc M) pc = .ok (.invokestatic index, 3)) (hp : pc + 3 = q) (kk : ∀ v n' t' σ' ρ', Q1 v n' t' σ' ρ' → jk_J G M q ls (v.toList ++ rest) n' t' σ' ρ' (rc - mc) (rs - ms) Q X) (kx : ∀ E n' t' σ' ρ', X1 E n' t' σ' ρ' → X E n' t' σ' ρ') : jk_J G M pc ls (As.reverse ++ rest) n t σ ρ rc rs Q X := by
  subst hp
  intro p e R s m args below meth c H locs cells slots ls' C hl hR hS hc hs
  have hts := C.2.2.2.2.2.2.1
  have hok := C.2.2.2.2.2.2.2.2.2.2.2.1
  have hZ := C.2.2.2.2.2.2.2.2.2.2.2.2.1
  have hb0 := C.2.2.2.2.2.2.2.2.2.2.2.2.2
  refine jk_behind (M := M) (mc := mc) (ms := ms) (rc' := rc - mc) (rs' := rs - ms) (rest := rest) (Q1 := Q1) (X1 := X1) (vx_runSN (As := As.map (jk_re G)) (own := jk_own M) (cc := jk_cc M) (nL := jk_nL M) (Ts := jk_WS) (n := na) ⟨C.1, C.2.1, C.2.2.1, C.2.2.2.2.2.1, hts⟩ hK ⟨jk_callCN C hm.1 hw hdep, hts _ hm.2, trivial⟩ ⟨jk_blind, fun U hU hW => ⟨rfl, hok, jk_Zat hok hZ hb0 hS hU hW, by rw [hU]; exact Nat.le_trans hb0 hS.1, by rw [hU]; exact jk_R_moved hW.alike hR⟩⟩ rfl (by rw [List.length_map]; exact hna) (jk_fsz hl) (by simp [F0, jk_re]) ?_ hd ⟨by omega, by omega⟩) C hl hS (by omega) (by omega) htb kk kx
  exact lv_room (Nat.le_trans (jk_catsum rest) (by omega))
theorem jk_callIN {y : MethodName} {M1 : jk_M} {host : String} {mc ms index na : Nat} {b : Nat} {As rest : List Value} {Q1 : jk_Q} {X1 : jk_X} (hK : jk_K G y M1 mc ms (.ref b :: As) n t σ ρ Q1 X1) (hm : jk_mI y M1 na) (hw : Cond.methodLinkNest (jk_own M) index y host ∈ jk_WS) (hna : As.length = na) (hdep : jk_d M1 + 1 ≤ jk_d M) (hlen : rest.length ≤ 4) (hmc : mc ≤ rc) (hms : ms ≤ rs) (htb : ∀ x ∈ jk_tb M, covers x pc = false)
    (hd : decode (jk_cc M) pc = .ok (.invokespecial index, 3)) (hp : pc + 3 = q) (kk : ∀ v n' t' σ' ρ', Q1 v n' t' σ' ρ' → jk_J G M q ls (v.toList ++ rest) n' t' σ' ρ' (rc - mc) (rs - ms) Q X) (kx : ∀ E n' t' σ' ρ', X1 E n' t' σ' ρ' → X E n' t' σ' ρ') : jk_J G M pc ls (As.reverse ++ .ref b :: rest) n t σ ρ rc rs Q X := by
  subst hp
  intro p e R s m args below meth c H locs cells slots ls' C hl hR hS hc hs
  have hts := C.2.2.2.2.2.2.1
  have hok := C.2.2.2.2.2.2.2.2.2.2.2.1
  have hZ := C.2.2.2.2.2.2.2.2.2.2.2.2.1
  have hb0 := C.2.2.2.2.2.2.2.2.2.2.2.2.2
  refine jk_behind (M := M) (mc := mc) (ms := ms) (rc' := rc - mc) (rs' := rs - ms) (rest := rest) (Q1 := Q1) (X1 := X1) (vx_runIN (As := As.map (jk_re G)) (own := jk_own M) (cc := jk_cc M) (nL := jk_nL M) (Ts := jk_WS) (n := na) ⟨C.1, C.2.1, C.2.2.1, C.2.2.2.2.2.1, hts⟩ hK ⟨jk_callCN0 C hm hw hdep, hm.2.1, hts _ hm.2.2.1⟩ ⟨jk_blind, fun U hU hW => ⟨rfl, hok, jk_Zat hok hZ hb0 hS hU hW, by rw [hU]; exact Nat.le_trans hb0 hS.1, by rw [hU]; exact jk_R_moved hW.alike hR⟩⟩ rfl (by rw [List.length_map]; exact hna) (jk_fsz hl) (by simp [F0, jk_re]) ?_ hd ⟨by omega, by omega⟩) C hl hS (by omega) (by omega) htb kk kx
  exact lv_room (Nat.le_trans (jk_catsum rest) (by omega))
end JC
