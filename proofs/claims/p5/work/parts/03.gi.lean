theorem gi_nil {big : List Cond} : GoodIn big [] := fun _ h => absurd h List.not_mem_nil
theorem gi_cons {big ws : List Cond} {w : Cond} (i : Nat) (h : big[i]? = some w) (hg : goodWord w = true) (t : GoodIn big ws) : GoodIn big (w :: ws) := fun v hv => (List.mem_cons.mp hv).elim (fun e => e ▸ ⟨List.mem_of_getElem? h, good_of_word hg⟩) (t v)
theorem goodIn_cut {big ws : List Cond} (k : Nat) (h1 : GoodIn big (ws.take k)) (h2 : GoodIn big (ws.drop k)) : GoodIn big ws := fun w h => goodIn_app h1 h2 w (by rw [List.take_append_drop]; exact h)
