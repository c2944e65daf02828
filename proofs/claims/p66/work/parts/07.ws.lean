/-! THE LAYER: programs walked over abstract heaps (ints as Int, places as numbers), the machine's frame hidden once and for all -/
def jk_kw : Cond → Bool
  | .fieldLinkNest _ _ _ _ _ _ => true
  | .methodLinkNest _ _ _ _ => true
  | .declares _ => true
  | .castable _ _ => true
  | .arrayOver (.object _) => true
  | .arrayOver (.array _) => true
  | w => goodWord w
theorem jk_kw_warm {w : Cond} (h : jk_kw w = true) {s U : State} {a a' : Array Value} (hW : s.WarmedH U.vm) (hb : w.before a s = true) : w.before a' U = true := by
  unfold jk_kw at h
  split at h
  · exact va_Nw.use rfl (va_Nw.warmF hW (va_Nw.of rfl hb))
  · exact va_Nw.use rfl (va_Nw.warmM hW (va_Nw.of rfl hb))
  · exact va_Nw.use rfl (va_Nw.warmD hW (va_Nw.of rfl hb))
  · exact va_Nw.use rfl (va_Nw.warmC hW (va_Nw.of rfl hb))
  · exact va_AO.use (va_AO.moved hW.alike (va_AO.of hb))
  · exact Jvm.Stand.arrayOver_alikeB hW.alike hb
  · exact word_at hW (good_of_word h) hb
def jk_WS : List Cond := lw_tbl.filter jk_kw
theorem jk_ws {w : Cond} (h : w ∈ lw_tbl) (hk : jk_kw w = true) : w ∈ jk_WS := List.mem_filter.mpr ⟨h, hk⟩
theorem jk_ws_tbl {w : Cond} (h : w ∈ jk_WS) : w ∈ lw_tbl := (List.mem_filter.mp h).1
theorem jk_ws_kw {w : Cond} (h : w ∈ jk_WS) : jk_kw w = true := (List.mem_filter.mp h).2
