/-! where the law's things lie -/
section LAS
variable {z q k : Nat}
theorem la_193 (h : Ax (qo z) 187 q ∨ q = z + 193) : z ≤ q := by
  rcases h with ⟨k, hk, e⟩ | e
  · have := qo_b z hk; omega
  · omega
theorem la_194 (h : Ax (qo z) 187 q ∨ q = z + 194) : z ≤ q := by
  rcases h with ⟨k, hk, e⟩ | e
  · have := qo_b z hk; omega
  · omega
theorem la_8 (h : Ax (fun k => z + 187 + k) 6 q) : z ≤ q := by
  obtain ⟨k, hk, e⟩ := h
  have e : q = z + 187 + k := e
  omega
theorem lb_193 (hk : k < 6) : ¬ (Ax (qo z) 187 (z + 187 + k) ∨ z + 187 + k = z + 193) := by
  rintro (⟨j, hj, e⟩ | e)
  · have := qo_b z hj; omega
  · omega
theorem lb_194 (hk : k < 6) : ¬ (Ax (qo z) 187 (z + 187 + k) ∨ z + 187 + k = z + 194) := by
  rintro (⟨j, hj, e⟩ | e)
  · have := qo_b z hj; omega
  · omega
theorem lc_193 : ¬ (Ax (qo z) 187 (z + 194) ∨ z + 194 = z + 193) := by
  rintro (⟨j, hj, e⟩ | e)
  · have := qo_b z hj; omega
  · omega
theorem lc_194 : ¬ (Ax (qo z) 187 (z + 193) ∨ z + 193 = z + 194) := by
  rintro (⟨j, hj, e⟩ | e)
  · have := qo_b z hj; omega
  · omega
theorem ld_193 : ¬ Ax (qo z) 187 (z + 193) := by
  rintro ⟨j, hj, e⟩
  have := qo_b z hj; omega
theorem ld_194 : ¬ Ax (qo z) 187 (z + 194) := by
  rintro ⟨j, hj, e⟩
  have := qo_b z hj; omega
theorem lb_8 (hk : k < 187) : ¬ Ax (fun k => z + 187 + k) 6 (qo z k) := by
  rintro ⟨j, hj, e⟩
  have e : qo z k = z + 187 + j := e
  have := qo_b z hk; omega
theorem le_193 : ¬ Ax (fun k => z + 187 + k) 6 (z + 193) := by
  rintro ⟨j, hj, e⟩
  have e : z + 193 = z + 187 + j := e
  omega
theorem le_194 : ¬ Ax (fun k => z + 187 + k) 6 (z + 194) := by
  rintro ⟨j, hj, e⟩
  have e : z + 194 = z + 187 + j := e
  omega
end LAS
theorem vdL_append : yL_append.cls = RL ∧ yL_append.cls ≠ "java/lang/invoke/MethodHandle" ∧ yL_append.cls ≠ "java/lang/invoke/VarHandle" ∧ (parseMethodDescriptor yL_append.desc).map (fun d => d.parameters.length) = some 7 := by decide +kernel
theorem vdL_load : yL_load.cls = RL ∧ yL_load.cls ≠ "java/lang/invoke/MethodHandle" ∧ yL_load.cls ≠ "java/lang/invoke/VarHandle" ∧ (parseMethodDescriptor yL_load.desc).map (fun d => d.parameters.length) = some 3 := by decide +kernel
theorem vdL_count : yL_count.cls = RL ∧ yL_count.cls ≠ "java/lang/invoke/MethodHandle" ∧ yL_count.cls ≠ "java/lang/invoke/VarHandle" ∧ (parseMethodDescriptor yL_count.desc).map (fun d => d.parameters.length) = some 3 := by decide +kernel
theorem vdL_folder : yL_folder.cls = RL ∧ yL_folder.cls ≠ "java/lang/invoke/MethodHandle" ∧ yL_folder.cls ≠ "java/lang/invoke/VarHandle" ∧ (parseMethodDescriptor yL_folder.desc).map (fun d => d.parameters.length) = some 4 := by decide +kernel
theorem vdL_walked : yL_walked.cls = RL ∧ yL_walked.cls ≠ "java/lang/invoke/MethodHandle" ∧ yL_walked.cls ≠ "java/lang/invoke/VarHandle" ∧ (parseMethodDescriptor yL_walked.desc).map (fun d => d.parameters.length) = some 3 := by decide +kernel
theorem vdL_heaviest : yL_heaviest.cls = RL ∧ yL_heaviest.cls ≠ "java/lang/invoke/MethodHandle" ∧ yL_heaviest.cls ≠ "java/lang/invoke/VarHandle" ∧ (parseMethodDescriptor yL_heaviest.desc).map (fun d => d.parameters.length) = some 3 := by decide +kernel
theorem vdL_addFolder : yL_addFolder.cls = RL ∧ yL_addFolder.cls ≠ "java/lang/invoke/MethodHandle" ∧ yL_addFolder.cls ≠ "java/lang/invoke/VarHandle" ∧ (parseMethodDescriptor yL_addFolder.desc).map (fun d => d.parameters.length) = some 4 := by decide +kernel
theorem vdL_removeFolder : yL_removeFolder.cls = RL ∧ yL_removeFolder.cls ≠ "java/lang/invoke/MethodHandle" ∧ yL_removeFolder.cls ≠ "java/lang/invoke/VarHandle" ∧ (parseMethodDescriptor yL_removeFolder.desc).map (fun d => d.parameters.length) = some 3 := by decide +kernel
theorem vdL_tagReason : yL_tagReason.cls = RL ∧ yL_tagReason.cls ≠ "java/lang/invoke/MethodHandle" ∧ yL_tagReason.cls ≠ "java/lang/invoke/VarHandle" ∧ (parseMethodDescriptor yL_tagReason.desc).map (fun d => d.parameters.length) = some 4 := by decide +kernel
theorem vdL_tag : yL_tag.cls = RL ∧ yL_tag.cls ≠ "java/lang/invoke/MethodHandle" ∧ yL_tag.cls ≠ "java/lang/invoke/VarHandle" ∧ (parseMethodDescriptor yL_tag.desc).map (fun d => d.parameters.length) = some 4 := by decide +kernel
theorem vdL_moveReason : yL_moveReason.cls = RL ∧ yL_moveReason.cls ≠ "java/lang/invoke/MethodHandle" ∧ yL_moveReason.cls ≠ "java/lang/invoke/VarHandle" ∧ (parseMethodDescriptor yL_moveReason.desc).map (fun d => d.parameters.length) = some 4 := by decide +kernel
theorem vdL_moveFolder : yL_moveFolder.cls = RL ∧ yL_moveFolder.cls ≠ "java/lang/invoke/MethodHandle" ∧ yL_moveFolder.cls ≠ "java/lang/invoke/VarHandle" ∧ (parseMethodDescriptor yL_moveFolder.desc).map (fun d => d.parameters.length) = some 4 := by decide +kernel
theorem vdL_file : yL_file.cls = RL ∧ yL_file.cls ≠ "java/lang/invoke/MethodHandle" ∧ yL_file.cls ≠ "java/lang/invoke/VarHandle" ∧ (parseMethodDescriptor yL_file.desc).map (fun d => d.parameters.length) = some 4 := by decide +kernel
theorem vdL_writeReason : yL_writeReason.cls = RL ∧ yL_writeReason.cls ≠ "java/lang/invoke/MethodHandle" ∧ yL_writeReason.cls ≠ "java/lang/invoke/VarHandle" ∧ (parseMethodDescriptor yL_writeReason.desc).map (fun d => d.parameters.length) = some 4 := by decide +kernel
theorem vdL_write : yL_write.cls = RL ∧ yL_write.cls ≠ "java/lang/invoke/MethodHandle" ∧ yL_write.cls ≠ "java/lang/invoke/VarHandle" ∧ (parseMethodDescriptor yL_write.desc).map (fun d => d.parameters.length) = some 4 := by decide +kernel
theorem vdL_room : yL_room.cls = RL ∧ yL_room.cls ≠ "java/lang/invoke/MethodHandle" ∧ yL_room.cls ≠ "java/lang/invoke/VarHandle" ∧ (parseMethodDescriptor yL_room.desc).map (fun d => d.parameters.length) = some 3 := by decide +kernel
theorem vdL_resize : yL_resize.cls = RL ∧ yL_resize.cls ≠ "java/lang/invoke/MethodHandle" ∧ yL_resize.cls ≠ "java/lang/invoke/VarHandle" ∧ (parseMethodDescriptor yL_resize.desc).map (fun d => d.parameters.length) = some 4 := by decide +kernel
theorem vdL_delete : yL_delete.cls = RL ∧ yL_delete.cls ≠ "java/lang/invoke/MethodHandle" ∧ yL_delete.cls ≠ "java/lang/invoke/VarHandle" ∧ (parseMethodDescriptor yL_delete.desc).map (fun d => d.parameters.length) = some 3 := by decide +kernel
theorem vdL_moveFile : yL_moveFile.cls = RL ∧ yL_moveFile.cls ≠ "java/lang/invoke/MethodHandle" ∧ yL_moveFile.cls ≠ "java/lang/invoke/VarHandle" ∧ (parseMethodDescriptor yL_moveFile.desc).map (fun d => d.parameters.length) = some 4 := by decide +kernel
theorem vdL_greatest : yL_greatest.cls = RL ∧ yL_greatest.cls ≠ "java/lang/invoke/MethodHandle" ∧ yL_greatest.cls ≠ "java/lang/invoke/VarHandle" ∧ (parseMethodDescriptor yL_greatest.desc).map (fun d => d.parameters.length) = some 3 := by decide +kernel
theorem vdL_used : yL_used.cls = RL ∧ yL_used.cls ≠ "java/lang/invoke/MethodHandle" ∧ yL_used.cls ≠ "java/lang/invoke/VarHandle" ∧ (parseMethodDescriptor yL_used.desc).map (fun d => d.parameters.length) = some 4 := by decide +kernel
theorem vdL_counted : yL_counted.cls = RL ∧ yL_counted.cls ≠ "java/lang/invoke/MethodHandle" ∧ yL_counted.cls ≠ "java/lang/invoke/VarHandle" ∧ (parseMethodDescriptor yL_counted.desc).map (fun d => d.parameters.length) = some 4 := by decide +kernel
theorem vdL_limit : yL_limit.cls = RL ∧ yL_limit.cls ≠ "java/lang/invoke/MethodHandle" ∧ yL_limit.cls ≠ "java/lang/invoke/VarHandle" ∧ (parseMethodDescriptor yL_limit.desc).map (fun d => d.parameters.length) = some 5 := by decide +kernel
theorem vdL_setLimit : yL_setLimit.cls = RL ∧ yL_setLimit.cls ≠ "java/lang/invoke/MethodHandle" ∧ yL_setLimit.cls ≠ "java/lang/invoke/VarHandle" ∧ (parseMethodDescriptor yL_setLimit.desc).map (fun d => d.parameters.length) = some 6 := by decide +kernel
theorem vdL_state : yL_state.cls = RL ∧ yL_state.cls ≠ "java/lang/invoke/MethodHandle" ∧ yL_state.cls ≠ "java/lang/invoke/VarHandle" ∧ (parseMethodDescriptor yL_state.desc).map (fun d => d.parameters.length) = some 4 := by decide +kernel
theorem vdL_graceLeft : yL_graceLeft.cls = RL ∧ yL_graceLeft.cls ≠ "java/lang/invoke/MethodHandle" ∧ yL_graceLeft.cls ≠ "java/lang/invoke/VarHandle" ∧ (parseMethodDescriptor yL_graceLeft.desc).map (fun d => d.parameters.length) = some 4 := by decide +kernel
theorem vdL_setGrace : yL_setGrace.cls = RL ∧ yL_setGrace.cls ≠ "java/lang/invoke/MethodHandle" ∧ yL_setGrace.cls ≠ "java/lang/invoke/VarHandle" ∧ (parseMethodDescriptor yL_setGrace.desc).map (fun d => d.parameters.length) = some 3 := by decide +kernel
theorem vdL_tick : yL_tick.cls = RL ∧ yL_tick.cls ≠ "java/lang/invoke/MethodHandle" ∧ yL_tick.cls ≠ "java/lang/invoke/VarHandle" ∧ (parseMethodDescriptor yL_tick.desc).map (fun d => d.parameters.length) = some 3 := by decide +kernel
theorem vdL_share : yL_share.cls = RL ∧ yL_share.cls ≠ "java/lang/invoke/MethodHandle" ∧ yL_share.cls ≠ "java/lang/invoke/VarHandle" ∧ (parseMethodDescriptor yL_share.desc).map (fun d => d.parameters.length) = some 4 := by decide +kernel
theorem vdL_gift : yL_gift.cls = RL ∧ yL_gift.cls ≠ "java/lang/invoke/MethodHandle" ∧ yL_gift.cls ≠ "java/lang/invoke/VarHandle" ∧ (parseMethodDescriptor yL_gift.desc).map (fun d => d.parameters.length) = some 6 := by decide +kernel
theorem vdL_giftOf : yL_giftOf.cls = RL ∧ yL_giftOf.cls ≠ "java/lang/invoke/MethodHandle" ∧ yL_giftOf.cls ≠ "java/lang/invoke/VarHandle" ∧ (parseMethodDescriptor yL_giftOf.desc).map (fun d => d.parameters.length) = some 4 := by decide +kernel
theorem vdL_endGift : yL_endGift.cls = RL ∧ yL_endGift.cls ≠ "java/lang/invoke/MethodHandle" ∧ yL_endGift.cls ≠ "java/lang/invoke/VarHandle" ∧ (parseMethodDescriptor yL_endGift.desc).map (fun d => d.parameters.length) = some 3 := by decide +kernel
theorem vdL_adjust : yL_adjust.cls = RL ∧ yL_adjust.cls ≠ "java/lang/invoke/MethodHandle" ∧ yL_adjust.cls ≠ "java/lang/invoke/VarHandle" ∧ (parseMethodDescriptor yL_adjust.desc).map (fun d => d.parameters.length) = some 5 := by decide +kernel
theorem vdL_writePath : yL_writePath.cls = RL ∧ yL_writePath.cls ≠ "java/lang/invoke/MethodHandle" ∧ yL_writePath.cls ≠ "java/lang/invoke/VarHandle" ∧ (parseMethodDescriptor yL_writePath.desc).map (fun d => d.parameters.length) = some 3 := by decide +kernel
theorem vdL_writeAccounts : yL_writeAccounts.cls = RL ∧ yL_writeAccounts.cls ≠ "java/lang/invoke/MethodHandle" ∧ yL_writeAccounts.cls ≠ "java/lang/invoke/VarHandle" ∧ (parseMethodDescriptor yL_writeAccounts.desc).map (fun d => d.parameters.length) = some 3 := by decide +kernel
theorem vdL_writtenByte : yL_writtenByte.cls = RL ∧ yL_writtenByte.cls ≠ "java/lang/invoke/MethodHandle" ∧ yL_writtenByte.cls ≠ "java/lang/invoke/VarHandle" ∧ (parseMethodDescriptor yL_writtenByte.desc).map (fun d => d.parameters.length) = some 3 := by decide +kernel
theorem vdL_undo : yL_undo.cls = RL ∧ yL_undo.cls ≠ "java/lang/invoke/MethodHandle" ∧ yL_undo.cls ≠ "java/lang/invoke/VarHandle" ∧ (parseMethodDescriptor yL_undo.desc).map (fun d => d.parameters.length) = some 2 := by decide +kernel
