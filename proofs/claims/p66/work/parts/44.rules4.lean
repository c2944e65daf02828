section JT
variable {G : jk_G} {M : jk_M} {pc q : Nat} {ls : List (Option Value)} {st : List Value} {n : Nat} {t : jk_T} {σ σ' : jk_I} {ρ ρ' : jk_P} {rc rs : Nat} {Q : jk_Q} {X : jk_X}
theorem jk_obj {a index : Nat} (hw : Cond.methodLink (jk_own M) index Lib.objectInit ∈ jk_WS) (hdep : Nat.ble 1 (jk_d M) = true) (hlen : Nat.ble st.length 4 = true) (hd : decode (jk_cc M) pc = .ok (.invokespecial index, 3)) (hp : pc + 3 = q) (kk : jk_J G M q ls st n t σ ρ rc rs Q X) : jk_J G M pc ls (.ref a :: st) n t σ ρ rc rs Q X := by
  subst hp
  intro p e R s m args below meth c H locs cells slots ls' C hl hR hS hc hs
  have hts := C.2.2.2.2.2.2.1
  have h1 := Nat.le_of_ble_eq_true hdep
  have h2 := Nat.le_of_ble_eq_true hlen
  have hd1 := C.2.2.2.2.2.2.2.2.2.1
  have hd2 := C.2.2.2.2.2.2.2.2.2.2.1
  have hcs := lv_room (m := m) (pc := pc) (ls := ls') (rest := (Value.ref a :: st).map (jk_re G)) (st := st.map (jk_re G)) (Nat.le_trans (jk_catsum st) (by omega))
  refine W.objInit C.1 C.2.1 C.2.2.2.2.2.1 (hts _ hw) (hts _ jw_44) (hts _ jw_45) rfl ((jk_fsz hl).trans C.2.2.1.symm) (rest := st.map (jk_re G)) rfl hd (by omega) (by omega) ?_
  exact kk p e R s m args below meth c H locs cells slots ls' C hl hR hS hc hs
/-- what a thrown 'new E("text")' needs of the launch and of the words -/
def jk_thW (G : jk_G) (own : String) (is ic ik : Nat) (cls text : String) (names : List String) : Prop :=
  Cond.classLink own ik cls ∈ jk_WS ∧ Cond.initialized cls ∈ jk_WS ∧ (∀ w ∈ vx_atS own ic cls names, w ∈ jk_WS) ∧ (∀ w ∈ Cond.classLink own ik cls :: Cond.initialized cls :: vx_atS own ic cls names, vx_ot w = true) ∧ Bundle.fit cls = true ∧ (∀ n ∈ names, Bundle.fit n = true) ∧
  ∀ s : State, jk_Z G s → (∃ sa, vk_R own is text sa s) ∧ vx_Zq Bundle.tN "UNASSIGNED_STACK" Bundle.steD (jk_A G) s s.heap ∧ vx_Zq Bundle.tN "SUPPRESSED_SENTINEL" Bundle.listD (jk_A G) s s.heap
theorem jk_R_old {U : State} {H H' : Heap} (hR : jk_R G U H n t σ ρ) (hz : H.size ≤ H'.size) (ho : ∀ q, q < H.size → H'[q]? = H[q]?) : ∃ n', n ≤ n' ∧ jk_R G U H' n' t σ ρ := by
  obtain ⟨h1, h2, h3, h4⟩ := hR
  refine ⟨64 + 2 * (H'.size - jk_b G), by omega, by omega, by omega, by omega, fun a => ?_⟩
  exact jk_cell_kept (h4 a) (by omega) (fun h6 han hae => ho _ (by rw [jk_ad_even h6 hae]; omega))
theorem jk_throwS {cls text : String} {names : List String} {ik is ic : Nat} (hth : jk_thW G (jk_own M) is ic ik cls text names) (htb : jk_tb M = []) (hnm : Nat.ble names.length 4 = true) (hdep : Nat.ble 9 (jk_d M) = true) (hst : Nat.ble st.length 2 = true) (hrc : 1 ≤ rc) (hrs : 6 ≤ rs)
    (d0 : decode (jk_cc M) pc = .ok (.new ik, 3)) (d3 : decode (jk_cc M) (pc + 3) = .ok (.dup, 1)) (d4 : decode (jk_cc M) (pc + 4) = .ok (.ldc is, 2)) (d6 : decode (jk_cc M) (pc + 6) = .ok (.invokespecial ic, 3)) (d9 : decode (jk_cc M) (pc + 9) = .ok (.athrow, 1))
    (hX : ∀ n', n ≤ n' → X cls n' t σ ρ) : jk_J G M pc ls st n t σ ρ rc rs Q X := by
  intro p e R s m args below meth c H locs cells slots ls' C hl hR hS hc hs
  have hts := C.2.2.2.2.2.2.1
  have hok := C.2.2.2.2.2.2.2.2.2.2.2.1
  have hZ := C.2.2.2.2.2.2.2.2.2.2.2.2.1
  have hb0 := C.2.2.2.2.2.2.2.2.2.2.2.2.2
  have hd1 := C.2.2.2.2.2.2.2.2.2.1
  have hd2 := C.2.2.2.2.2.2.2.2.2.2.1
  have hn9 := Nat.le_of_ble_eq_true hnm
  have h9 := Nat.le_of_ble_eq_true hdep
  have hs9 := Nat.le_of_ble_eq_true hst
  have hcs := jk_catsum (G := G) st
  obtain ⟨t1, t2, t3, t4, t5, t6, t7⟩ := hth
  obtain ⟨⟨sa, hsa⟩, hU, hN⟩ := t7 s hZ
  exact vx_throwS C.1 C.2.1 hok.1 C.2.2.2.2.2.1 t5 t6 (hts _ t1) (hts _ t2) hsa (fun w hw => hts w (t3 w hw)) t4 hU hN hS ((jk_fsz hl).trans C.2.2.1.symm) d0 d3 d4 d6 d9 (by rw [C.2.2.2.2.2.2.2.1, htb]; exact fun x hx => nomatch hx) (by omega) (by omega) (by omega) (by omega) C.2.2.2.2.1
    (fun u hal hz ho => by
      obtain ⟨n', hn', hR'⟩ := jk_R_old hR hz ho
      exact ⟨n', t, σ, ρ, hX n' hn', jk_R_moved hal hR', Nat.le_trans hS.1 hz, fun x h1 h2 => (ho x (Nat.lt_of_lt_of_le h1 hS.1)).trans (hS.2.1 x h1 h2)⟩)
    hS.2.2 (by omega) (by omega)
theorem jk_throwSW {cls text : String} {names : List String} {ik is ic : Nat} (hth : jk_thW G (jk_own M) is ic ik cls text names) (htb : jk_tb M = []) (hnm : Nat.ble names.length 4 = true) (hdep : Nat.ble 9 (jk_d M) = true) (hst : Nat.ble st.length 2 = true) (hrc : 1 ≤ rc) (hrs : 6 ≤ rs)
    (d0 : decode (jk_cc M) pc = .ok (.new ik, 3)) (d3 : decode (jk_cc M) (pc + 3) = .ok (.dup, 1)) (d4 : decode (jk_cc M) (pc + 4) = .ok (.ldc_w is, 3)) (d6 : decode (jk_cc M) (pc + 7) = .ok (.invokespecial ic, 3)) (d9 : decode (jk_cc M) (pc + 10) = .ok (.athrow, 1))
    (hX : ∀ n', n ≤ n' → X cls n' t σ ρ) : jk_J G M pc ls st n t σ ρ rc rs Q X := by
  intro p e R s m args below meth c H locs cells slots ls' C hl hR hS hc hs
  have hts := C.2.2.2.2.2.2.1
  have hok := C.2.2.2.2.2.2.2.2.2.2.2.1
  have hZ := C.2.2.2.2.2.2.2.2.2.2.2.2.1
  have hb0 := C.2.2.2.2.2.2.2.2.2.2.2.2.2
  have hd1 := C.2.2.2.2.2.2.2.2.2.1
  have hd2 := C.2.2.2.2.2.2.2.2.2.2.1
  have hn9 := Nat.le_of_ble_eq_true hnm
  have h9 := Nat.le_of_ble_eq_true hdep
  have hs9 := Nat.le_of_ble_eq_true hst
  have hcs := jk_catsum (G := G) st
  obtain ⟨t1, t2, t3, t4, t5, t6, t7⟩ := hth
  obtain ⟨⟨sa, hsa⟩, hU, hN⟩ := t7 s hZ
  exact vx_throwSW C.1 C.2.1 hok.1 C.2.2.2.2.2.1 t5 t6 (hts _ t1) (hts _ t2) hsa (fun w hw => hts w (t3 w hw)) t4 hU hN hS ((jk_fsz hl).trans C.2.2.1.symm) d0 d3 d4 d6 d9 (by rw [C.2.2.2.2.2.2.2.1, htb]; exact fun x hx => nomatch hx) (by omega) (by omega) (by omega) (by omega) C.2.2.2.2.1
    (fun u hal hz ho => by
      obtain ⟨n', hn', hR'⟩ := jk_R_old hR hz ho
      exact ⟨n', t, σ, ρ, hX n' hn', jk_R_moved hal hR', Nat.le_trans hS.1 hz, fun x h1 h2 => (ho x (Nat.lt_of_lt_of_le h1 hS.1)).trans (hS.2.1 x h1 h2)⟩)
    hS.2.2 (by omega) (by omega)
end JT
