def rX5_isFrom : Room := { frames := 0, cells := 0, slots := 0, locals := 0 }
theorem ndX5_isFrom : yX5_isFrom.cls = RX5 ∧ yX5_isFrom.cls ≠ "java/lang/invoke/MethodHandle" ∧ yX5_isFrom.cls ≠ "java/lang/invoke/VarHandle" ∧ (parseMethodDescriptor yX5_isFrom.desc).map (fun d => d.parameters.length) = some 3 := by decide +kernel
def rX5_reset : Room := { frames := 1, cells := 0, slots := 0, locals := 22 }
theorem ndX5_reset : yX5_reset.cls = RX5 ∧ yX5_reset.cls ≠ "java/lang/invoke/MethodHandle" ∧ yX5_reset.cls ≠ "java/lang/invoke/VarHandle" ∧ (parseMethodDescriptor yX5_reset.desc).map (fun d => d.parameters.length) = some 4 := by decide +kernel
theorem iX5_reset_X5 : ∀ w ∈ u_ws RX5 TX5 21, w ∈ wsX5_reset := by decide +kernel
theorem kX5_reset_7 : Cond.fieldLink RX5 7 (TX5 11).1 (TX5 11).2.1 (TX5 11).2.2.1 ∈ wsX5_reset := by decide +kernel
theorem kX5_reset_19 : Cond.fieldLink RX5 19 (TX5 14).1 (TX5 14).2.1 (TX5 14).2.2.1 ∈ wsX5_reset := by decide +kernel
theorem kX5_reset_29 : Cond.fieldLink RX5 29 (TX5 17).1 (TX5 17).2.1 (TX5 17).2.2.1 ∈ wsX5_reset := by decide +kernel
theorem kX5_reset_46 : Cond.fieldLink RX5 46 (TX5 0).1 (TX5 0).2.1 (TX5 0).2.2.1 ∈ wsX5_reset := by decide +kernel
theorem kX5_reset_50 : Cond.fieldLink RX5 50 (TX5 1).1 (TX5 1).2.1 (TX5 1).2.2.1 ∈ wsX5_reset := by decide +kernel
theorem kX5_reset_53 : Cond.fieldLink RX5 53 (TX5 2).1 (TX5 2).2.1 (TX5 2).2.2.1 ∈ wsX5_reset := by decide +kernel
theorem kX5_reset_56 : Cond.fieldLink RX5 56 (TX5 3).1 (TX5 3).2.1 (TX5 3).2.2.1 ∈ wsX5_reset := by decide +kernel
theorem kX5_reset_59 : Cond.fieldLink RX5 59 (TX5 4).1 (TX5 4).2.1 (TX5 4).2.2.1 ∈ wsX5_reset := by decide +kernel
theorem kX5_reset_62 : Cond.fieldLink RX5 62 (TX5 5).1 (TX5 5).2.1 (TX5 5).2.2.1 ∈ wsX5_reset := by decide +kernel
theorem kX5_reset_65 : Cond.fieldLink RX5 65 (TX5 6).1 (TX5 6).2.1 (TX5 6).2.2.1 ∈ wsX5_reset := by decide +kernel
theorem kX5_reset_68 : Cond.fieldLink RX5 68 (TX5 7).1 (TX5 7).2.1 (TX5 7).2.2.1 ∈ wsX5_reset := by decide +kernel
theorem kX5_reset_71 : Cond.fieldLink RX5 71 (TX5 8).1 (TX5 8).2.1 (TX5 8).2.2.1 ∈ wsX5_reset := by decide +kernel
theorem kX5_reset_74 : Cond.fieldLink RX5 74 (TX5 9).1 (TX5 9).2.1 (TX5 9).2.2.1 ∈ wsX5_reset := by decide +kernel
theorem kX5_reset_77 : Cond.fieldLink RX5 77 (TX5 10).1 (TX5 10).2.1 (TX5 10).2.2.1 ∈ wsX5_reset := by decide +kernel
theorem kX5_reset_80 : Cond.fieldLink RX5 80 (TX5 20).1 (TX5 20).2.1 (TX5 20).2.2.1 ∈ wsX5_reset := by decide +kernel
def rX5_isPage : Room := { frames := 1, cells := 0, slots := 0, locals := 22 }
theorem ndX5_isPage : yX5_isPage.cls = RX5 ∧ yX5_isPage.cls ≠ "java/lang/invoke/MethodHandle" ∧ yX5_isPage.cls ≠ "java/lang/invoke/VarHandle" ∧ (parseMethodDescriptor yX5_isPage.desc).map (fun d => d.parameters.length) = some 1 := by decide +kernel
def rX5_residentCount : Room := { frames := 0, cells := 0, slots := 0, locals := 0 }
theorem ndX5_residentCount : yX5_residentCount.cls = RX5 ∧ yX5_residentCount.cls ≠ "java/lang/invoke/MethodHandle" ∧ yX5_residentCount.cls ≠ "java/lang/invoke/VarHandle" ∧ (parseMethodDescriptor yX5_residentCount.desc).map (fun d => d.parameters.length) = some 0 := by decide +kernel
theorem iX5_residentCount_X5 : ∀ w ∈ u_ws RX5 TX5 21, w ∈ wsX5_residentCount := by decide +kernel
theorem kX5_residentCount_19 : Cond.fieldLink RX5 19 (TX5 14).1 (TX5 14).2.1 (TX5 14).2.2.1 ∈ wsX5_residentCount := by decide +kernel
def rX5_time : Room := { frames := 0, cells := 0, slots := 0, locals := 0 }
theorem ndX5_time : yX5_time.cls = RX5 ∧ yX5_time.cls ≠ "java/lang/invoke/MethodHandle" ∧ yX5_time.cls ≠ "java/lang/invoke/VarHandle" ∧ (parseMethodDescriptor yX5_time.desc).map (fun d => d.parameters.length) = some 2 := by decide +kernel
theorem iX5_time_X5 : ∀ w ∈ u_ws RX5 TX5 21, w ∈ wsX5_time := by decide +kernel
theorem kX5_time_26 : Cond.fieldLink RX5 26 (TX5 16).1 (TX5 16).2.1 (TX5 16).2.2.1 ∈ wsX5_time := by decide +kernel
def rX5_goesFirst : Room := { frames := 1, cells := 0, slots := 0, locals := 22 }
theorem ndX5_goesFirst : yX5_goesFirst.cls = RX5 ∧ yX5_goesFirst.cls ≠ "java/lang/invoke/MethodHandle" ∧ yX5_goesFirst.cls ≠ "java/lang/invoke/VarHandle" ∧ (parseMethodDescriptor yX5_goesFirst.desc).map (fun d => d.parameters.length) = some 2 := by decide +kernel
theorem iX5_goesFirst_X5 : ∀ w ∈ u_ws RX5 TX5 21, w ∈ wsX5_goesFirst := by decide +kernel
theorem kX5_goesFirst_29 : Cond.fieldLink RX5 29 (TX5 17).1 (TX5 17).2.1 (TX5 17).2.2.1 ∈ wsX5_goesFirst := by decide +kernel
theorem kX5_goesFirst_50 : Cond.fieldLink RX5 50 (TX5 1).1 (TX5 1).2.1 (TX5 1).2.2.1 ∈ wsX5_goesFirst := by decide +kernel
def rX5_victim : Room := { frames := 2, cells := 0, slots := 0, locals := 45 }
theorem ndX5_victim : yX5_victim.cls = RX5 ∧ yX5_victim.cls ≠ "java/lang/invoke/MethodHandle" ∧ yX5_victim.cls ≠ "java/lang/invoke/VarHandle" ∧ (parseMethodDescriptor yX5_victim.desc).map (fun d => d.parameters.length) = some 0 := by decide +kernel
theorem iX5_victim_X5 : ∀ w ∈ u_ws RX5 TX5 21, w ∈ wsX5_victim := by decide +kernel
theorem kX5_victim_16 : Cond.fieldLink RX5 16 (TX5 13).1 (TX5 13).2.1 (TX5 13).2.2.1 ∈ wsX5_victim := by decide +kernel
theorem kX5_victim_19 : Cond.fieldLink RX5 19 (TX5 14).1 (TX5 14).2.1 (TX5 14).2.2.1 ∈ wsX5_victim := by decide +kernel
def rX5_canLoad : Room := { frames := 3, cells := 0, slots := 0, locals := 67 }
theorem ndX5_canLoad : yX5_canLoad.cls = RX5 ∧ yX5_canLoad.cls ≠ "java/lang/invoke/MethodHandle" ∧ yX5_canLoad.cls ≠ "java/lang/invoke/VarHandle" ∧ (parseMethodDescriptor yX5_canLoad.desc).map (fun d => d.parameters.length) = some 0 := by decide +kernel
theorem iX5_canLoad_X5 : ∀ w ∈ u_ws RX5 TX5 21, w ∈ wsX5_canLoad := by decide +kernel
theorem kX5_canLoad_46 : Cond.fieldLink RX5 46 (TX5 0).1 (TX5 0).2.1 (TX5 0).2.2.1 ∈ wsX5_canLoad := by decide +kernel
def rX5_isStuck : Room := { frames := 4, cells := 0, slots := 0, locals := 87 }
theorem ndX5_isStuck : yX5_isStuck.cls = RX5 ∧ yX5_isStuck.cls ≠ "java/lang/invoke/MethodHandle" ∧ yX5_isStuck.cls ≠ "java/lang/invoke/VarHandle" ∧ (parseMethodDescriptor yX5_isStuck.desc).map (fun d => d.parameters.length) = some 1 := by decide +kernel
theorem iX5_isStuck_X5 : ∀ w ∈ u_ws RX5 TX5 21, w ∈ wsX5_isStuck := by decide +kernel
theorem kX5_isStuck_19 : Cond.fieldLink RX5 19 (TX5 14).1 (TX5 14).2.1 (TX5 14).2.2.1 ∈ wsX5_isStuck := by decide +kernel
def rX5_record : Room := { frames := 1, cells := 0, slots := 0, locals := 22 }
theorem ndX5_record : yX5_record.cls = RX5 ∧ yX5_record.cls ≠ "java/lang/invoke/MethodHandle" ∧ yX5_record.cls ≠ "java/lang/invoke/VarHandle" ∧ (parseMethodDescriptor yX5_record.desc).map (fun d => d.parameters.length) = some 1 := by decide +kernel
theorem iX5_record_X5 : ∀ w ∈ u_ws RX5 TX5 21, w ∈ wsX5_record := by decide +kernel
theorem kX5_record_19 : Cond.fieldLink RX5 19 (TX5 14).1 (TX5 14).2.1 (TX5 14).2.2.1 ∈ wsX5_record := by decide +kernel
theorem kX5_record_26 : Cond.fieldLink RX5 26 (TX5 16).1 (TX5 16).2.1 (TX5 16).2.2.1 ∈ wsX5_record := by decide +kernel
theorem kX5_record_29 : Cond.fieldLink RX5 29 (TX5 17).1 (TX5 17).2.1 (TX5 17).2.2.1 ∈ wsX5_record := by decide +kernel
theorem kX5_record_50 : Cond.fieldLink RX5 50 (TX5 1).1 (TX5 1).2.1 (TX5 1).2.2.1 ∈ wsX5_record := by decide +kernel
theorem kX5_record_56 : Cond.fieldLink RX5 56 (TX5 3).1 (TX5 3).2.1 (TX5 3).2.2.1 ∈ wsX5_record := by decide +kernel
theorem kX5_record_59 : Cond.fieldLink RX5 59 (TX5 4).1 (TX5 4).2.1 (TX5 4).2.2.1 ∈ wsX5_record := by decide +kernel
def rX5_positionInQueue : Room := { frames := 0, cells := 0, slots := 0, locals := 0 }
theorem ndX5_positionInQueue : yX5_positionInQueue.cls = RX5 ∧ yX5_positionInQueue.cls ≠ "java/lang/invoke/MethodHandle" ∧ yX5_positionInQueue.cls ≠ "java/lang/invoke/VarHandle" ∧ (parseMethodDescriptor yX5_positionInQueue.desc).map (fun d => d.parameters.length) = some 1 := by decide +kernel
theorem iX5_positionInQueue_X5 : ∀ w ∈ u_ws RX5 TX5 21, w ∈ wsX5_positionInQueue := by decide +kernel
theorem kX5_positionInQueue_32 : Cond.fieldLink RX5 32 (TX5 18).1 (TX5 18).2.1 (TX5 18).2.2.1 ∈ wsX5_positionInQueue := by decide +kernel
theorem kX5_positionInQueue_80 : Cond.fieldLink RX5 80 (TX5 20).1 (TX5 20).2.1 (TX5 20).2.2.1 ∈ wsX5_positionInQueue := by decide +kernel
def rX5_removeEntry : Room := { frames := 0, cells := 0, slots := 0, locals := 0 }
theorem ndX5_removeEntry : yX5_removeEntry.cls = RX5 ∧ yX5_removeEntry.cls ≠ "java/lang/invoke/MethodHandle" ∧ yX5_removeEntry.cls ≠ "java/lang/invoke/VarHandle" ∧ (parseMethodDescriptor yX5_removeEntry.desc).map (fun d => d.parameters.length) = some 1 := by decide +kernel
theorem iX5_removeEntry_X5 : ∀ w ∈ u_ws RX5 TX5 21, w ∈ wsX5_removeEntry := by decide +kernel
theorem kX5_removeEntry_32 : Cond.fieldLink RX5 32 (TX5 18).1 (TX5 18).2.1 (TX5 18).2.2.1 ∈ wsX5_removeEntry := by decide +kernel
theorem kX5_removeEntry_35 : Cond.fieldLink RX5 35 (TX5 19).1 (TX5 19).2.1 (TX5 19).2.2.1 ∈ wsX5_removeEntry := by decide +kernel
theorem kX5_removeEntry_80 : Cond.fieldLink RX5 80 (TX5 20).1 (TX5 20).2.1 (TX5 20).2.2.1 ∈ wsX5_removeEntry := by decide +kernel
def rX5_writeToDisk : Room := { frames := 0, cells := 0, slots := 0, locals := 0 }
theorem ndX5_writeToDisk : yX5_writeToDisk.cls = RX5 ∧ yX5_writeToDisk.cls ≠ "java/lang/invoke/MethodHandle" ∧ yX5_writeToDisk.cls ≠ "java/lang/invoke/VarHandle" ∧ (parseMethodDescriptor yX5_writeToDisk.desc).map (fun d => d.parameters.length) = some 2 := by decide +kernel
theorem iX5_writeToDisk_X5 : ∀ w ∈ u_ws RX5 TX5 21, w ∈ wsX5_writeToDisk := by decide +kernel
theorem kX5_writeToDisk_7 : Cond.fieldLink RX5 7 (TX5 11).1 (TX5 11).2.1 (TX5 11).2.2.1 ∈ wsX5_writeToDisk := by decide +kernel
theorem kX5_writeToDisk_74 : Cond.fieldLink RX5 74 (TX5 9).1 (TX5 9).2.1 (TX5 9).2.2.1 ∈ wsX5_writeToDisk := by decide +kernel
def rX5_writeOldest : Room := { frames := 1, cells := 0, slots := 0, locals := 22 }
theorem ndX5_writeOldest : yX5_writeOldest.cls = RX5 ∧ yX5_writeOldest.cls ≠ "java/lang/invoke/MethodHandle" ∧ yX5_writeOldest.cls ≠ "java/lang/invoke/VarHandle" ∧ (parseMethodDescriptor yX5_writeOldest.desc).map (fun d => d.parameters.length) = some 0 := by decide +kernel
theorem iX5_writeOldest_X5 : ∀ w ∈ u_ws RX5 TX5 21, w ∈ wsX5_writeOldest := by decide +kernel
theorem kX5_writeOldest_32 : Cond.fieldLink RX5 32 (TX5 18).1 (TX5 18).2.1 (TX5 18).2.2.1 ∈ wsX5_writeOldest := by decide +kernel
theorem kX5_writeOldest_35 : Cond.fieldLink RX5 35 (TX5 19).1 (TX5 19).2.1 (TX5 19).2.2.1 ∈ wsX5_writeOldest := by decide +kernel
def rX5_evict : Room := { frames := 2, cells := 0, slots := 0, locals := 42 }
theorem ndX5_evict : yX5_evict.cls = RX5 ∧ yX5_evict.cls ≠ "java/lang/invoke/MethodHandle" ∧ yX5_evict.cls ≠ "java/lang/invoke/VarHandle" ∧ (parseMethodDescriptor yX5_evict.desc).map (fun d => d.parameters.length) = some 1 := by decide +kernel
theorem iX5_evict_X5 : ∀ w ∈ u_ws RX5 TX5 21, w ∈ wsX5_evict := by decide +kernel
theorem kX5_evict_13 : Cond.fieldLink RX5 13 (TX5 12).1 (TX5 12).2.1 (TX5 12).2.2.1 ∈ wsX5_evict := by decide +kernel
theorem kX5_evict_19 : Cond.fieldLink RX5 19 (TX5 14).1 (TX5 14).2.1 (TX5 14).2.2.1 ∈ wsX5_evict := by decide +kernel
theorem kX5_evict_23 : Cond.fieldLink RX5 23 (TX5 15).1 (TX5 15).2.1 (TX5 15).2.2.1 ∈ wsX5_evict := by decide +kernel
theorem kX5_evict_32 : Cond.fieldLink RX5 32 (TX5 18).1 (TX5 18).2.1 (TX5 18).2.2.1 ∈ wsX5_evict := by decide +kernel
theorem kX5_evict_35 : Cond.fieldLink RX5 35 (TX5 19).1 (TX5 19).2.1 (TX5 19).2.2.1 ∈ wsX5_evict := by decide +kernel
theorem kX5_evict_53 : Cond.fieldLink RX5 53 (TX5 2).1 (TX5 2).2.1 (TX5 2).2.2.1 ∈ wsX5_evict := by decide +kernel
theorem kX5_evict_68 : Cond.fieldLink RX5 68 (TX5 7).1 (TX5 7).2.1 (TX5 7).2.2.1 ∈ wsX5_evict := by decide +kernel
theorem kX5_evict_77 : Cond.fieldLink RX5 77 (TX5 10).1 (TX5 10).2.1 (TX5 10).2.2.1 ∈ wsX5_evict := by decide +kernel
theorem kX5_evict_80 : Cond.fieldLink RX5 80 (TX5 20).1 (TX5 20).2.1 (TX5 20).2.2.1 ∈ wsX5_evict := by decide +kernel
def rX5_load : Room := { frames := 3, cells := 0, slots := 0, locals := 67 }
theorem ndX5_load : yX5_load.cls = RX5 ∧ yX5_load.cls ≠ "java/lang/invoke/MethodHandle" ∧ yX5_load.cls ≠ "java/lang/invoke/VarHandle" ∧ (parseMethodDescriptor yX5_load.desc).map (fun d => d.parameters.length) = some 1 := by decide +kernel
theorem iX5_load_X5 : ∀ w ∈ u_ws RX5 TX5 21, w ∈ wsX5_load := by decide +kernel
theorem kX5_load_7 : Cond.fieldLink RX5 7 (TX5 11).1 (TX5 11).2.1 (TX5 11).2.2.1 ∈ wsX5_load := by decide +kernel
theorem kX5_load_13 : Cond.fieldLink RX5 13 (TX5 12).1 (TX5 12).2.1 (TX5 12).2.2.1 ∈ wsX5_load := by decide +kernel
theorem kX5_load_16 : Cond.fieldLink RX5 16 (TX5 13).1 (TX5 13).2.1 (TX5 13).2.2.1 ∈ wsX5_load := by decide +kernel
theorem kX5_load_19 : Cond.fieldLink RX5 19 (TX5 14).1 (TX5 14).2.1 (TX5 14).2.2.1 ∈ wsX5_load := by decide +kernel
theorem kX5_load_23 : Cond.fieldLink RX5 23 (TX5 15).1 (TX5 15).2.1 (TX5 15).2.2.1 ∈ wsX5_load := by decide +kernel
theorem kX5_load_35 : Cond.fieldLink RX5 35 (TX5 19).1 (TX5 19).2.1 (TX5 19).2.2.1 ∈ wsX5_load := by decide +kernel
theorem kX5_load_46 : Cond.fieldLink RX5 46 (TX5 0).1 (TX5 0).2.1 (TX5 0).2.2.1 ∈ wsX5_load := by decide +kernel
theorem kX5_load_71 : Cond.fieldLink RX5 71 (TX5 8).1 (TX5 8).2.1 (TX5 8).2.2.1 ∈ wsX5_load := by decide +kernel
def rX5_reference : Room := { frames := 4, cells := 0, slots := 0, locals := 89 }
theorem ndX5_reference : yX5_reference.cls = RX5 ∧ yX5_reference.cls ≠ "java/lang/invoke/MethodHandle" ∧ yX5_reference.cls ≠ "java/lang/invoke/VarHandle" ∧ (parseMethodDescriptor yX5_reference.desc).map (fun d => d.parameters.length) = some 1 := by decide +kernel
theorem iX5_reference_X5 : ∀ w ∈ u_ws RX5 TX5 21, w ∈ wsX5_reference := by decide +kernel
theorem kX5_reference_19 : Cond.fieldLink RX5 19 (TX5 14).1 (TX5 14).2.1 (TX5 14).2.2.1 ∈ wsX5_reference := by decide +kernel
theorem kX5_reference_62 : Cond.fieldLink RX5 62 (TX5 5).1 (TX5 5).2.1 (TX5 5).2.2.1 ∈ wsX5_reference := by decide +kernel
theorem kX5_reference_65 : Cond.fieldLink RX5 65 (TX5 6).1 (TX5 6).2.1 (TX5 6).2.2.1 ∈ wsX5_reference := by decide +kernel
def rX5_read : Room := { frames := 5, cells := 0, slots := 0, locals := 110 }
theorem ndX5_read : yX5_read.cls = RX5 ∧ yX5_read.cls ≠ "java/lang/invoke/MethodHandle" ∧ yX5_read.cls ≠ "java/lang/invoke/VarHandle" ∧ (parseMethodDescriptor yX5_read.desc).map (fun d => d.parameters.length) = some 1 := by decide +kernel
theorem iX5_read_X5 : ∀ w ∈ u_ws RX5 TX5 21, w ∈ wsX5_read := by decide +kernel
theorem kX5_read_13 : Cond.fieldLink RX5 13 (TX5 12).1 (TX5 12).2.1 (TX5 12).2.2.1 ∈ wsX5_read := by decide +kernel
def rX5_write : Room := { frames := 5, cells := 0, slots := 0, locals := 110 }
theorem ndX5_write : yX5_write.cls = RX5 ∧ yX5_write.cls ≠ "java/lang/invoke/MethodHandle" ∧ yX5_write.cls ≠ "java/lang/invoke/VarHandle" ∧ (parseMethodDescriptor yX5_write.desc).map (fun d => d.parameters.length) = some 2 := by decide +kernel
theorem iX5_write_X5 : ∀ w ∈ u_ws RX5 TX5 21, w ∈ wsX5_write := by decide +kernel
theorem kX5_write_13 : Cond.fieldLink RX5 13 (TX5 12).1 (TX5 12).2.1 (TX5 12).2.2.1 ∈ wsX5_write := by decide +kernel
theorem kX5_write_23 : Cond.fieldLink RX5 23 (TX5 15).1 (TX5 15).2.1 (TX5 15).2.2.1 ∈ wsX5_write := by decide +kernel
def rX5_pin : Room := { frames := 5, cells := 0, slots := 0, locals := 110 }
theorem ndX5_pin : yX5_pin.cls = RX5 ∧ yX5_pin.cls ≠ "java/lang/invoke/MethodHandle" ∧ yX5_pin.cls ≠ "java/lang/invoke/VarHandle" ∧ (parseMethodDescriptor yX5_pin.desc).map (fun d => d.parameters.length) = some 1 := by decide +kernel
theorem iX5_pin_X5 : ∀ w ∈ u_ws RX5 TX5 21, w ∈ wsX5_pin := by decide +kernel
theorem kX5_pin_16 : Cond.fieldLink RX5 16 (TX5 13).1 (TX5 13).2.1 (TX5 13).2.2.1 ∈ wsX5_pin := by decide +kernel
theorem kX5_pin_19 : Cond.fieldLink RX5 19 (TX5 14).1 (TX5 14).2.1 (TX5 14).2.2.1 ∈ wsX5_pin := by decide +kernel
def rX5_unpin : Room := { frames := 2, cells := 0, slots := 0, locals := 42 }
theorem ndX5_unpin : yX5_unpin.cls = RX5 ∧ yX5_unpin.cls ≠ "java/lang/invoke/MethodHandle" ∧ yX5_unpin.cls ≠ "java/lang/invoke/VarHandle" ∧ (parseMethodDescriptor yX5_unpin.desc).map (fun d => d.parameters.length) = some 1 := by decide +kernel
theorem iX5_unpin_X5 : ∀ w ∈ u_ws RX5 TX5 21, w ∈ wsX5_unpin := by decide +kernel
theorem kX5_unpin_16 : Cond.fieldLink RX5 16 (TX5 13).1 (TX5 13).2.1 (TX5 13).2.2.1 ∈ wsX5_unpin := by decide +kernel
theorem kX5_unpin_19 : Cond.fieldLink RX5 19 (TX5 14).1 (TX5 14).2.1 (TX5 14).2.2.1 ∈ wsX5_unpin := by decide +kernel
def rX5_writeResident : Room := { frames := 1, cells := 0, slots := 0, locals := 22 }
theorem ndX5_writeResident : yX5_writeResident.cls = RX5 ∧ yX5_writeResident.cls ≠ "java/lang/invoke/MethodHandle" ∧ yX5_writeResident.cls ≠ "java/lang/invoke/VarHandle" ∧ (parseMethodDescriptor yX5_writeResident.desc).map (fun d => d.parameters.length) = some 1 := by decide +kernel
theorem iX5_writeResident_X5 : ∀ w ∈ u_ws RX5 TX5 21, w ∈ wsX5_writeResident := by decide +kernel
theorem kX5_writeResident_13 : Cond.fieldLink RX5 13 (TX5 12).1 (TX5 12).2.1 (TX5 12).2.2.1 ∈ wsX5_writeResident := by decide +kernel
theorem kX5_writeResident_19 : Cond.fieldLink RX5 19 (TX5 14).1 (TX5 14).2.1 (TX5 14).2.2.1 ∈ wsX5_writeResident := by decide +kernel
theorem kX5_writeResident_23 : Cond.fieldLink RX5 23 (TX5 15).1 (TX5 15).2.1 (TX5 15).2.2.1 ∈ wsX5_writeResident := by decide +kernel
def rX5_flush : Room := { frames := 2, cells := 0, slots := 0, locals := 43 }
theorem ndX5_flush : yX5_flush.cls = RX5 ∧ yX5_flush.cls ≠ "java/lang/invoke/MethodHandle" ∧ yX5_flush.cls ≠ "java/lang/invoke/VarHandle" ∧ (parseMethodDescriptor yX5_flush.desc).map (fun d => d.parameters.length) = some 1 := by decide +kernel
theorem iX5_flush_X5 : ∀ w ∈ u_ws RX5 TX5 21, w ∈ wsX5_flush := by decide +kernel
theorem kX5_flush_35 : Cond.fieldLink RX5 35 (TX5 19).1 (TX5 19).2.1 (TX5 19).2.2.1 ∈ wsX5_flush := by decide +kernel
def rX5_flushAll : Room := { frames := 2, cells := 0, slots := 0, locals := 43 }
theorem ndX5_flushAll : yX5_flushAll.cls = RX5 ∧ yX5_flushAll.cls ≠ "java/lang/invoke/MethodHandle" ∧ yX5_flushAll.cls ≠ "java/lang/invoke/VarHandle" ∧ (parseMethodDescriptor yX5_flushAll.desc).map (fun d => d.parameters.length) = some 0 := by decide +kernel
theorem iX5_flushAll_X5 : ∀ w ∈ u_ws RX5 TX5 21, w ∈ wsX5_flushAll := by decide +kernel
theorem kX5_flushAll_74 : Cond.fieldLink RX5 74 (TX5 9).1 (TX5 9).2.1 (TX5 9).2.2.1 ∈ wsX5_flushAll := by decide +kernel
theorem kX5_flushAll_80 : Cond.fieldLink RX5 80 (TX5 20).1 (TX5 20).2.1 (TX5 20).2.2.1 ∈ wsX5_flushAll := by decide +kernel
def rX5_drain : Room := { frames := 2, cells := 0, slots := 0, locals := 42 }
theorem ndX5_drain : yX5_drain.cls = RX5 ∧ yX5_drain.cls ≠ "java/lang/invoke/MethodHandle" ∧ yX5_drain.cls ≠ "java/lang/invoke/VarHandle" ∧ (parseMethodDescriptor yX5_drain.desc).map (fun d => d.parameters.length) = some 1 := by decide +kernel
theorem iX5_drain_X5 : ∀ w ∈ u_ws RX5 TX5 21, w ∈ wsX5_drain := by decide +kernel
theorem kX5_drain_74 : Cond.fieldLink RX5 74 (TX5 9).1 (TX5 9).2.1 (TX5 9).2.2.1 ∈ wsX5_drain := by decide +kernel
theorem kX5_drain_80 : Cond.fieldLink RX5 80 (TX5 20).1 (TX5 20).2.1 (TX5 20).2.2.1 ∈ wsX5_drain := by decide +kernel
def rX5_discard : Room := { frames := 2, cells := 0, slots := 0, locals := 42 }
theorem ndX5_discard : yX5_discard.cls = RX5 ∧ yX5_discard.cls ≠ "java/lang/invoke/MethodHandle" ∧ yX5_discard.cls ≠ "java/lang/invoke/VarHandle" ∧ (parseMethodDescriptor yX5_discard.desc).map (fun d => d.parameters.length) = some 1 := by decide +kernel
theorem iX5_discard_X5 : ∀ w ∈ u_ws RX5 TX5 21, w ∈ wsX5_discard := by decide +kernel
theorem kX5_discard_16 : Cond.fieldLink RX5 16 (TX5 13).1 (TX5 13).2.1 (TX5 13).2.2.1 ∈ wsX5_discard := by decide +kernel
theorem kX5_discard_19 : Cond.fieldLink RX5 19 (TX5 14).1 (TX5 14).2.1 (TX5 14).2.2.1 ∈ wsX5_discard := by decide +kernel
theorem kX5_discard_29 : Cond.fieldLink RX5 29 (TX5 17).1 (TX5 17).2.1 (TX5 17).2.2.1 ∈ wsX5_discard := by decide +kernel
def rX5_isResident : Room := { frames := 2, cells := 0, slots := 0, locals := 42 }
theorem ndX5_isResident : yX5_isResident.cls = RX5 ∧ yX5_isResident.cls ≠ "java/lang/invoke/MethodHandle" ∧ yX5_isResident.cls ≠ "java/lang/invoke/VarHandle" ∧ (parseMethodDescriptor yX5_isResident.desc).map (fun d => d.parameters.length) = some 1 := by decide +kernel
theorem iX5_isResident_X5 : ∀ w ∈ u_ws RX5 TX5 21, w ∈ wsX5_isResident := by decide +kernel
theorem kX5_isResident_19 : Cond.fieldLink RX5 19 (TX5 14).1 (TX5 14).2.1 (TX5 14).2.2.1 ∈ wsX5_isResident := by decide +kernel
def rX5_isDirty : Room := { frames := 2, cells := 0, slots := 0, locals := 42 }
theorem ndX5_isDirty : yX5_isDirty.cls = RX5 ∧ yX5_isDirty.cls ≠ "java/lang/invoke/MethodHandle" ∧ yX5_isDirty.cls ≠ "java/lang/invoke/VarHandle" ∧ (parseMethodDescriptor yX5_isDirty.desc).map (fun d => d.parameters.length) = some 1 := by decide +kernel
theorem iX5_isDirty_X5 : ∀ w ∈ u_ws RX5 TX5 21, w ∈ wsX5_isDirty := by decide +kernel
theorem kX5_isDirty_19 : Cond.fieldLink RX5 19 (TX5 14).1 (TX5 14).2.1 (TX5 14).2.2.1 ∈ wsX5_isDirty := by decide +kernel
theorem kX5_isDirty_23 : Cond.fieldLink RX5 23 (TX5 15).1 (TX5 15).2.1 (TX5 15).2.2.1 ∈ wsX5_isDirty := by decide +kernel
def rX5_pinCount : Room := { frames := 2, cells := 0, slots := 0, locals := 42 }
theorem ndX5_pinCount : yX5_pinCount.cls = RX5 ∧ yX5_pinCount.cls ≠ "java/lang/invoke/MethodHandle" ∧ yX5_pinCount.cls ≠ "java/lang/invoke/VarHandle" ∧ (parseMethodDescriptor yX5_pinCount.desc).map (fun d => d.parameters.length) = some 1 := by decide +kernel
theorem iX5_pinCount_X5 : ∀ w ∈ u_ws RX5 TX5 21, w ∈ wsX5_pinCount := by decide +kernel
theorem kX5_pinCount_16 : Cond.fieldLink RX5 16 (TX5 13).1 (TX5 13).2.1 (TX5 13).2.2.1 ∈ wsX5_pinCount := by decide +kernel
theorem kX5_pinCount_19 : Cond.fieldLink RX5 19 (TX5 14).1 (TX5 14).2.1 (TX5 14).2.2.1 ∈ wsX5_pinCount := by decide +kernel
def rX5_referenceTime : Room := { frames := 2, cells := 0, slots := 0, locals := 42 }
theorem ndX5_referenceTime : yX5_referenceTime.cls = RX5 ∧ yX5_referenceTime.cls ≠ "java/lang/invoke/MethodHandle" ∧ yX5_referenceTime.cls ≠ "java/lang/invoke/VarHandle" ∧ (parseMethodDescriptor yX5_referenceTime.desc).map (fun d => d.parameters.length) = some 2 := by decide +kernel
theorem iX5_referenceTime_X5 : ∀ w ∈ u_ws RX5 TX5 21, w ∈ wsX5_referenceTime := by decide +kernel
theorem kX5_referenceTime_29 : Cond.fieldLink RX5 29 (TX5 17).1 (TX5 17).2.1 (TX5 17).2.2.1 ∈ wsX5_referenceTime := by decide +kernel
theorem kX5_referenceTime_50 : Cond.fieldLink RX5 50 (TX5 1).1 (TX5 1).2.1 (TX5 1).2.2.1 ∈ wsX5_referenceTime := by decide +kernel
def rX5_backwardKDistance : Room := { frames := 2, cells := 0, slots := 0, locals := 42 }
theorem ndX5_backwardKDistance : yX5_backwardKDistance.cls = RX5 ∧ yX5_backwardKDistance.cls ≠ "java/lang/invoke/MethodHandle" ∧ yX5_backwardKDistance.cls ≠ "java/lang/invoke/VarHandle" ∧ (parseMethodDescriptor yX5_backwardKDistance.desc).map (fun d => d.parameters.length) = some 1 := by decide +kernel
theorem iX5_backwardKDistance_X5 : ∀ w ∈ u_ws RX5 TX5 21, w ∈ wsX5_backwardKDistance := by decide +kernel
theorem kX5_backwardKDistance_29 : Cond.fieldLink RX5 29 (TX5 17).1 (TX5 17).2.1 (TX5 17).2.2.1 ∈ wsX5_backwardKDistance := by decide +kernel
theorem kX5_backwardKDistance_50 : Cond.fieldLink RX5 50 (TX5 1).1 (TX5 1).2.1 (TX5 1).2.2.1 ∈ wsX5_backwardKDistance := by decide +kernel
theorem kX5_backwardKDistance_59 : Cond.fieldLink RX5 59 (TX5 4).1 (TX5 4).2.1 (TX5 4).2.2.1 ∈ wsX5_backwardKDistance := by decide +kernel
def rX5_diskValue : Room := { frames := 2, cells := 0, slots := 0, locals := 42 }
theorem ndX5_diskValue : yX5_diskValue.cls = RX5 ∧ yX5_diskValue.cls ≠ "java/lang/invoke/MethodHandle" ∧ yX5_diskValue.cls ≠ "java/lang/invoke/VarHandle" ∧ (parseMethodDescriptor yX5_diskValue.desc).map (fun d => d.parameters.length) = some 1 := by decide +kernel
theorem iX5_diskValue_X5 : ∀ w ∈ u_ws RX5 TX5 21, w ∈ wsX5_diskValue := by decide +kernel
theorem kX5_diskValue_7 : Cond.fieldLink RX5 7 (TX5 11).1 (TX5 11).2.1 (TX5 11).2.2.1 ∈ wsX5_diskValue := by decide +kernel
def rX5_residentPage : Room := { frames := 0, cells := 0, slots := 0, locals := 0 }
theorem ndX5_residentPage : yX5_residentPage.cls = RX5 ∧ yX5_residentPage.cls ≠ "java/lang/invoke/MethodHandle" ∧ yX5_residentPage.cls ≠ "java/lang/invoke/VarHandle" ∧ (parseMethodDescriptor yX5_residentPage.desc).map (fun d => d.parameters.length) = some 1 := by decide +kernel
theorem iX5_residentPage_X5 : ∀ w ∈ u_ws RX5 TX5 21, w ∈ wsX5_residentPage := by decide +kernel
theorem kX5_residentPage_19 : Cond.fieldLink RX5 19 (TX5 14).1 (TX5 14).2.1 (TX5 14).2.2.1 ∈ wsX5_residentPage := by decide +kernel
def rX5_queueSize : Room := { frames := 0, cells := 0, slots := 0, locals := 0 }
theorem ndX5_queueSize : yX5_queueSize.cls = RX5 ∧ yX5_queueSize.cls ≠ "java/lang/invoke/MethodHandle" ∧ yX5_queueSize.cls ≠ "java/lang/invoke/VarHandle" ∧ (parseMethodDescriptor yX5_queueSize.desc).map (fun d => d.parameters.length) = some 0 := by decide +kernel
theorem iX5_queueSize_X5 : ∀ w ∈ u_ws RX5 TX5 21, w ∈ wsX5_queueSize := by decide +kernel
theorem kX5_queueSize_80 : Cond.fieldLink RX5 80 (TX5 20).1 (TX5 20).2.1 (TX5 20).2.2.1 ∈ wsX5_queueSize := by decide +kernel
def rX5_isInQueue : Room := { frames := 1, cells := 0, slots := 0, locals := 22 }
theorem ndX5_isInQueue : yX5_isInQueue.cls = RX5 ∧ yX5_isInQueue.cls ≠ "java/lang/invoke/MethodHandle" ∧ yX5_isInQueue.cls ≠ "java/lang/invoke/VarHandle" ∧ (parseMethodDescriptor yX5_isInQueue.desc).map (fun d => d.parameters.length) = some 1 := by decide +kernel
theorem iX5_isInQueue_X5 : ∀ w ∈ u_ws RX5 TX5 21, w ∈ wsX5_isInQueue := by decide +kernel
theorem kX5_isInQueue_80 : Cond.fieldLink RX5 80 (TX5 20).1 (TX5 20).2.1 (TX5 20).2.2.1 ∈ wsX5_isInQueue := by decide +kernel
def rX5_queuedPage : Room := { frames := 2, cells := 0, slots := 0, locals := 43 }
theorem ndX5_queuedPage : yX5_queuedPage.cls = RX5 ∧ yX5_queuedPage.cls ≠ "java/lang/invoke/MethodHandle" ∧ yX5_queuedPage.cls ≠ "java/lang/invoke/VarHandle" ∧ (parseMethodDescriptor yX5_queuedPage.desc).map (fun d => d.parameters.length) = some 1 := by decide +kernel
theorem iX5_queuedPage_X5 : ∀ w ∈ u_ws RX5 TX5 21, w ∈ wsX5_queuedPage := by decide +kernel
theorem kX5_queuedPage_32 : Cond.fieldLink RX5 32 (TX5 18).1 (TX5 18).2.1 (TX5 18).2.2.1 ∈ wsX5_queuedPage := by decide +kernel
def rX5_queuedValue : Room := { frames := 2, cells := 0, slots := 0, locals := 43 }
theorem ndX5_queuedValue : yX5_queuedValue.cls = RX5 ∧ yX5_queuedValue.cls ≠ "java/lang/invoke/MethodHandle" ∧ yX5_queuedValue.cls ≠ "java/lang/invoke/VarHandle" ∧ (parseMethodDescriptor yX5_queuedValue.desc).map (fun d => d.parameters.length) = some 1 := by decide +kernel
theorem iX5_queuedValue_X5 : ∀ w ∈ u_ws RX5 TX5 21, w ∈ wsX5_queuedValue := by decide +kernel
theorem kX5_queuedValue_35 : Cond.fieldLink RX5 35 (TX5 19).1 (TX5 19).2.1 (TX5 19).2.2.1 ∈ wsX5_queuedValue := by decide +kernel
def rX5_clock : Room := { frames := 0, cells := 0, slots := 0, locals := 0 }
theorem ndX5_clock : yX5_clock.cls = RX5 ∧ yX5_clock.cls ≠ "java/lang/invoke/MethodHandle" ∧ yX5_clock.cls ≠ "java/lang/invoke/VarHandle" ∧ (parseMethodDescriptor yX5_clock.desc).map (fun d => d.parameters.length) = some 0 := by decide +kernel
theorem iX5_clock_X5 : ∀ w ∈ u_ws RX5 TX5 21, w ∈ wsX5_clock := by decide +kernel
theorem kX5_clock_59 : Cond.fieldLink RX5 59 (TX5 4).1 (TX5 4).2.1 (TX5 4).2.2.1 ∈ wsX5_clock := by decide +kernel
def rX5_hits : Room := { frames := 0, cells := 0, slots := 0, locals := 0 }
theorem ndX5_hits : yX5_hits.cls = RX5 ∧ yX5_hits.cls ≠ "java/lang/invoke/MethodHandle" ∧ yX5_hits.cls ≠ "java/lang/invoke/VarHandle" ∧ (parseMethodDescriptor yX5_hits.desc).map (fun d => d.parameters.length) = some 0 := by decide +kernel
theorem iX5_hits_X5 : ∀ w ∈ u_ws RX5 TX5 21, w ∈ wsX5_hits := by decide +kernel
theorem kX5_hits_62 : Cond.fieldLink RX5 62 (TX5 5).1 (TX5 5).2.1 (TX5 5).2.2.1 ∈ wsX5_hits := by decide +kernel
def rX5_misses : Room := { frames := 0, cells := 0, slots := 0, locals := 0 }
theorem ndX5_misses : yX5_misses.cls = RX5 ∧ yX5_misses.cls ≠ "java/lang/invoke/MethodHandle" ∧ yX5_misses.cls ≠ "java/lang/invoke/VarHandle" ∧ (parseMethodDescriptor yX5_misses.desc).map (fun d => d.parameters.length) = some 0 := by decide +kernel
theorem iX5_misses_X5 : ∀ w ∈ u_ws RX5 TX5 21, w ∈ wsX5_misses := by decide +kernel
theorem kX5_misses_65 : Cond.fieldLink RX5 65 (TX5 6).1 (TX5 6).2.1 (TX5 6).2.2.1 ∈ wsX5_misses := by decide +kernel
def rX5_evictions : Room := { frames := 0, cells := 0, slots := 0, locals := 0 }
theorem ndX5_evictions : yX5_evictions.cls = RX5 ∧ yX5_evictions.cls ≠ "java/lang/invoke/MethodHandle" ∧ yX5_evictions.cls ≠ "java/lang/invoke/VarHandle" ∧ (parseMethodDescriptor yX5_evictions.desc).map (fun d => d.parameters.length) = some 0 := by decide +kernel
theorem iX5_evictions_X5 : ∀ w ∈ u_ws RX5 TX5 21, w ∈ wsX5_evictions := by decide +kernel
theorem kX5_evictions_68 : Cond.fieldLink RX5 68 (TX5 7).1 (TX5 7).2.1 (TX5 7).2.2.1 ∈ wsX5_evictions := by decide +kernel
def rX5_diskReads : Room := { frames := 0, cells := 0, slots := 0, locals := 0 }
theorem ndX5_diskReads : yX5_diskReads.cls = RX5 ∧ yX5_diskReads.cls ≠ "java/lang/invoke/MethodHandle" ∧ yX5_diskReads.cls ≠ "java/lang/invoke/VarHandle" ∧ (parseMethodDescriptor yX5_diskReads.desc).map (fun d => d.parameters.length) = some 0 := by decide +kernel
theorem iX5_diskReads_X5 : ∀ w ∈ u_ws RX5 TX5 21, w ∈ wsX5_diskReads := by decide +kernel
theorem kX5_diskReads_71 : Cond.fieldLink RX5 71 (TX5 8).1 (TX5 8).2.1 (TX5 8).2.2.1 ∈ wsX5_diskReads := by decide +kernel
def rX5_diskWrites : Room := { frames := 0, cells := 0, slots := 0, locals := 0 }
theorem ndX5_diskWrites : yX5_diskWrites.cls = RX5 ∧ yX5_diskWrites.cls ≠ "java/lang/invoke/MethodHandle" ∧ yX5_diskWrites.cls ≠ "java/lang/invoke/VarHandle" ∧ (parseMethodDescriptor yX5_diskWrites.desc).map (fun d => d.parameters.length) = some 0 := by decide +kernel
theorem iX5_diskWrites_X5 : ∀ w ∈ u_ws RX5 TX5 21, w ∈ wsX5_diskWrites := by decide +kernel
theorem kX5_diskWrites_74 : Cond.fieldLink RX5 74 (TX5 9).1 (TX5 9).2.1 (TX5 9).2.2.1 ∈ wsX5_diskWrites := by decide +kernel
def rX5_stalls : Room := { frames := 0, cells := 0, slots := 0, locals := 0 }
theorem ndX5_stalls : yX5_stalls.cls = RX5 ∧ yX5_stalls.cls ≠ "java/lang/invoke/MethodHandle" ∧ yX5_stalls.cls ≠ "java/lang/invoke/VarHandle" ∧ (parseMethodDescriptor yX5_stalls.desc).map (fun d => d.parameters.length) = some 0 := by decide +kernel
theorem iX5_stalls_X5 : ∀ w ∈ u_ws RX5 TX5 21, w ∈ wsX5_stalls := by decide +kernel
theorem kX5_stalls_77 : Cond.fieldLink RX5 77 (TX5 10).1 (TX5 10).2.1 (TX5 10).2.2.1 ∈ wsX5_stalls := by decide +kernel
