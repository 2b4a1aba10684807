theorem gs_0m : Cond.code yL_isSo cL_isSo 15 (some .boolean) ∈ wsL_law :=
  List.mem_append_left _ (List.mem_append_left _ (List.mem_append_left _ (List.mem_append_left _ (List.mem_append_left _ (List.mem_append_left _ (List.mem_append_left _ (List.mem_append_left _ (List.mem_append_left _ (List.mem_append_right _ (List.mem_append_right _ (List.mem_append_right _ (List.mem_append_right _ (List.mem_append_right _ (List.mem_append_right _ (List.mem_append_right _ (List.mem_append_right _ (List.mem_append_right _ (List.mem_append_right _ (List.mem_append_right _ (List.mem_append_right _ (List.mem_append_right _ (List.mem_append_right _ (List.mem_append_right _ (List.mem_append_right _ (List.mem_append_left _ (List.mem_of_getElem? (i := 13) rfl))))))))))))))))))))))))))
theorem gs_0g : goodWord (Cond.code yL_isSo cL_isSo 15 (some .boolean)) = true := rfl
theorem gs_0 : GoodIn wsL_law [Cond.code yL_isSo cL_isSo 15 (some .boolean)] := by
  intro w hw
  have e := List.mem_singleton.mp hw
  subst e
  exact ⟨gs_0m, good_of_word gs_0g⟩
