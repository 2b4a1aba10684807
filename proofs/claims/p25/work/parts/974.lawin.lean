theorem ap2 {a b : List Cond} {P : Cond → Prop} (h1 : ∀ w ∈ a, P w) (h2 : ∀ w ∈ b, P w) : ∀ w ∈ a ++ b, P w := fun w h => (List.mem_append.mp h).elim (h1 w) (h2 w)
theorem wsL_law_in : ∀ w ∈ wsL_law, w ∈ lw_tbl := by
  unfold wsL_law
  refine ap2 (ap2 (ap2 (ap2 (ap2 (ap2 (ap2 (ap2 (ap2 (?_) wx_7) wx_2) wx_1) wx_6) wx_0) wx_4) wx_3) wx_5) (fun w h => absurd h List.not_mem_nil)
  exact ap2 wl_1 (ap2 wl_2 (ap2 wl_3 (ap2 wl_4 (ap2 wl_5 (ap2 wl_6 (ap2 wl_7 (ap2 wl_8 (ap2 wl_9 (ap2 wl_10 (ap2 wl_11 (ap2 wl_12 (ap2 wl_13 (ap2 wl_14 (ap2 wl_15 (ap2 wl_16 (ap2 wl_17 (wl_18)))))))))))))))))
