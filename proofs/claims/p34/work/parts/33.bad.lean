section
theorem zw_X5_receive_f12 : Cond.fieldLink RX5 12 "LightReceiver" "now" "LLightReceiver$State;" ∈ wsX5_receive := by decide +kernel
theorem zi_X5_receive_X5 : ∀ w ∈ wsX50, w ∈ wsX5_receive := fun _ h => List.mem_cons_of_mem _ (List.mem_append_left _ (List.mem_append_left _ (List.mem_append_left _ (List.mem_append_left _ (List.mem_append_left _ (List.mem_append_left _ (List.mem_append_right _ h)))))))
theorem zi_X5_receive_X4 : ∀ w ∈ wsX40, w ∈ wsX5_receive := fun _ h => List.mem_cons_of_mem _ (List.mem_append_left _ (List.mem_append_left _ (List.mem_append_left _ (List.mem_append_left _ (List.mem_append_left _ (List.mem_append_right _ h))))))
theorem zi_X5_receive_X2 : ∀ w ∈ wsX20, w ∈ wsX5_receive := fun _ h => List.mem_cons_of_mem _ (List.mem_append_left _ (List.mem_append_left _ (List.mem_append_left _ (List.mem_append_left _ (List.mem_append_right _ h)))))
theorem zw_X5_shine_f12 : Cond.fieldLink RX5 12 "LightReceiver" "now" "LLightReceiver$State;" ∈ wsX5_shine := by decide +kernel
theorem zi_X5_shine_X5 : ∀ w ∈ wsX50, w ∈ wsX5_shine := fun _ h => List.mem_cons_of_mem _ (List.mem_append_left _ (List.mem_append_left _ (List.mem_append_left _ (List.mem_append_left _ (List.mem_append_left _ (List.mem_append_right _ h))))))
theorem zi_X5_shine_X4 : ∀ w ∈ wsX40, w ∈ wsX5_shine := fun _ h => List.mem_cons_of_mem _ (List.mem_append_left _ (List.mem_append_left _ (List.mem_append_left _ (List.mem_append_left _ (List.mem_append_right _ h)))))
theorem zi_X5_shine_X2 : ∀ w ∈ wsX20, w ∈ wsX5_shine := fun _ h => List.mem_cons_of_mem _ (List.mem_append_left _ (List.mem_append_left _ (List.mem_append_left _ (List.mem_append_right _ h))))
theorem zw_X5_undo_f19 : Cond.fieldLink RX5 19 "LightReceiver" "saves" "LLightReceiver$Saves;" ∈ wsX5_undo := by decide +kernel
theorem zi_X5_undo_X5 : ∀ w ∈ wsX50, w ∈ wsX5_undo := fun _ h => List.mem_cons_of_mem _ (List.mem_append_left _ (List.mem_append_left _ (List.mem_append_left _ (List.mem_append_left _ (List.mem_append_right _ h)))))
theorem zi_X5_undo_X3 : ∀ w ∈ wsX30, w ∈ wsX5_undo := fun _ h => List.mem_cons_of_mem _ (List.mem_append_left _ (List.mem_append_left _ (List.mem_append_left _ (List.mem_append_right _ h))))
end

