theorem mb_X11_init : Cond.initialized yX11_init.cls ∈ lw_ok ∧ Cond.code yX11_init cX11_init 1 none ∈ lw_ok ∧ (yX11_init.cls ≠ "java/lang/invoke/MethodHandle" ∧ yX11_init.cls ≠ "java/lang/invoke/VarHandle" ∧ (parseMethodDescriptor yX11_init.desc).map (fun d => d.parameters.length) = some 0) := ⟨ok_1 1 rfl rfl, ok_1 26 rfl rfl, by decide +kernel⟩
theorem mi_X11_init : Cond.instanceMethod yX11_init ∈ lw_ok := ok_1 25 rfl rfl
theorem mb_X10_init : Cond.initialized yX10_init.cls ∈ lw_ok ∧ Cond.code yX10_init cX10_init 3 none ∈ lw_ok ∧ (yX10_init.cls ≠ "java/lang/invoke/MethodHandle" ∧ yX10_init.cls ≠ "java/lang/invoke/VarHandle" ∧ (parseMethodDescriptor yX10_init.desc).map (fun d => d.parameters.length) = some 0) := ⟨ok_1 2 rfl rfl, ok_1 34 rfl rfl, by decide +kernel⟩
theorem mi_X10_init : Cond.instanceMethod yX10_init ∈ lw_ok := ok_1 33 rfl rfl
theorem mb_X0_init : Cond.initialized yX0_init.cls ∈ lw_ok ∧ Cond.code yX0_init cX0_init 1 none ∈ lw_ok ∧ (yX0_init.cls ≠ "java/lang/invoke/MethodHandle" ∧ yX0_init.cls ≠ "java/lang/invoke/VarHandle" ∧ (parseMethodDescriptor yX0_init.desc).map (fun d => d.parameters.length) = some 0) := ⟨ok_1 3 rfl rfl, ok_1 40 rfl rfl, by decide +kernel⟩
theorem mi_X0_init : Cond.instanceMethod yX0_init ∈ lw_ok := ok_1 39 rfl rfl
theorem mb_X3_init : Cond.initialized yX3_init.cls ∈ lw_ok ∧ Cond.code yX3_init cX3_init 1 none ∈ lw_ok ∧ (yX3_init.cls ≠ "java/lang/invoke/MethodHandle" ∧ yX3_init.cls ≠ "java/lang/invoke/VarHandle" ∧ (parseMethodDescriptor yX3_init.desc).map (fun d => d.parameters.length) = some 0) := ⟨ok_1 4 rfl rfl, ok_1 94 rfl rfl, by decide +kernel⟩
theorem mi_X3_init : Cond.instanceMethod yX3_init ∈ lw_ok := ok_1 93 rfl rfl
theorem mb_X8_init : Cond.initialized yX8_init.cls ∈ lw_ok ∧ Cond.code yX8_init cX8_init 4 none ∈ lw_ok ∧ (yX8_init.cls ≠ "java/lang/invoke/MethodHandle" ∧ yX8_init.cls ≠ "java/lang/invoke/VarHandle" ∧ (parseMethodDescriptor yX8_init.desc).map (fun d => d.parameters.length) = some 3) := ⟨ok_1 5 rfl rfl, ok_1 107 rfl rfl, by decide +kernel⟩
theorem mi_X8_init : Cond.instanceMethod yX8_init ∈ lw_ok := ok_1 106 rfl rfl
theorem mb_X9_init : Cond.initialized yX9_init.cls ∈ lw_ok ∧ Cond.code yX9_init cX9_init 2 none ∈ lw_ok ∧ (yX9_init.cls ≠ "java/lang/invoke/MethodHandle" ∧ yX9_init.cls ≠ "java/lang/invoke/VarHandle" ∧ (parseMethodDescriptor yX9_init.desc).map (fun d => d.parameters.length) = some 1) := ⟨ok_1 6 rfl rfl, ok_1 127 rfl rfl, by decide +kernel⟩
theorem mi_X9_init : Cond.instanceMethod yX9_init ∈ lw_ok := ok_1 126 rfl rfl
theorem mb_J9_max_7cf53 : Cond.initialized yJ9_max_7cf53.cls ∈ lw_ok ∧ Cond.code yJ9_max_7cf53 cJ9_max_7cf53 2 (some .int) ∈ lw_ok ∧ (yJ9_max_7cf53.cls ≠ "java/lang/invoke/MethodHandle" ∧ yJ9_max_7cf53.cls ≠ "java/lang/invoke/VarHandle" ∧ (parseMethodDescriptor yJ9_max_7cf53.desc).map (fun d => d.parameters.length) = some 2) := ⟨ok_1 7 rfl rfl, ok_1 131 rfl rfl, by decide +kernel⟩
theorem mt_J9_max_7cf53 : Cond.static yJ9_max_7cf53 ∈ lw_ok := ok_1 130 rfl rfl
theorem mb_X7_init : Cond.initialized yX7_init.cls ∈ lw_ok ∧ Cond.code yX7_init cX7_init 2 none ∈ lw_ok ∧ (yX7_init.cls ≠ "java/lang/invoke/MethodHandle" ∧ yX7_init.cls ≠ "java/lang/invoke/VarHandle" ∧ (parseMethodDescriptor yX7_init.desc).map (fun d => d.parameters.length) = some 0) := ⟨ok_1 8 rfl rfl, ok_1 163 rfl rfl, by decide +kernel⟩
theorem mi_X7_init : Cond.instanceMethod yX7_init ∈ lw_ok := ok_1 162 rfl rfl
theorem mb_X5_init : Cond.initialized yX5_init.cls ∈ lw_ok ∧ Cond.code yX5_init cX5_init 1 none ∈ lw_ok ∧ (yX5_init.cls ≠ "java/lang/invoke/MethodHandle" ∧ yX5_init.cls ≠ "java/lang/invoke/VarHandle" ∧ (parseMethodDescriptor yX5_init.desc).map (fun d => d.parameters.length) = some 0) := ⟨ok_1 9 rfl rfl, ok_1 183 rfl rfl, by decide +kernel⟩
theorem mi_X5_init : Cond.instanceMethod yX5_init ∈ lw_ok := ok_1 182 rfl rfl
theorem mb_X6_init : Cond.initialized yX6_init.cls ∈ lw_ok ∧ Cond.code yX6_init cX6_init 1 none ∈ lw_ok ∧ (yX6_init.cls ≠ "java/lang/invoke/MethodHandle" ∧ yX6_init.cls ≠ "java/lang/invoke/VarHandle" ∧ (parseMethodDescriptor yX6_init.desc).map (fun d => d.parameters.length) = some 0) := ⟨ok_1 10 rfl rfl, ok_1 237 rfl rfl, by decide +kernel⟩
theorem mi_X6_init : Cond.instanceMethod yX6_init ∈ lw_ok := ok_1 236 rfl rfl
theorem mb_X4_init : Cond.initialized yX4_init.cls ∈ lw_ok ∧ Cond.code yX4_init cX4_init 1 none ∈ lw_ok ∧ (yX4_init.cls ≠ "java/lang/invoke/MethodHandle" ∧ yX4_init.cls ≠ "java/lang/invoke/VarHandle" ∧ (parseMethodDescriptor yX4_init.desc).map (fun d => d.parameters.length) = some 0) := ⟨ok_1 11 rfl rfl, ok_2 16 rfl rfl, by decide +kernel⟩
theorem mi_X4_init : Cond.instanceMethod yX4_init ∈ lw_ok := ok_2 15 rfl rfl
theorem mb_X2_init : Cond.initialized yX2_init.cls ∈ lw_ok ∧ Cond.code yX2_init cX2_init 1 none ∈ lw_ok ∧ (yX2_init.cls ≠ "java/lang/invoke/MethodHandle" ∧ yX2_init.cls ≠ "java/lang/invoke/VarHandle" ∧ (parseMethodDescriptor yX2_init.desc).map (fun d => d.parameters.length) = some 0) := ⟨ok_1 12 rfl rfl, ok_2 29 rfl rfl, by decide +kernel⟩
theorem mi_X2_init : Cond.instanceMethod yX2_init ∈ lw_ok := ok_2 28 rfl rfl
theorem mb_X1_init : Cond.initialized yX1_init.cls ∈ lw_ok ∧ Cond.code yX1_init cX1_init 4 none ∈ lw_ok ∧ (yX1_init.cls ≠ "java/lang/invoke/MethodHandle" ∧ yX1_init.cls ≠ "java/lang/invoke/VarHandle" ∧ (parseMethodDescriptor yX1_init.desc).map (fun d => d.parameters.length) = some 3) := ⟨ok_1 13 rfl rfl, ok_2 48 rfl rfl, by decide +kernel⟩
theorem mi_X1_init : Cond.instanceMethod yX1_init ∈ lw_ok := ok_2 47 rfl rfl
theorem mb_X11_state : Cond.initialized yX11_state.cls ∈ lw_ok ∧ Cond.code yX11_state cX11_state 3 (some .int) ∈ lw_ok ∧ (yX11_state.cls ≠ "java/lang/invoke/MethodHandle" ∧ yX11_state.cls ≠ "java/lang/invoke/VarHandle" ∧ (parseMethodDescriptor yX11_state.desc).map (fun d => d.parameters.length) = some 1) := ⟨ok_1 1 rfl rfl, ok_2 106 rfl rfl, by decide +kernel⟩
theorem mi_X11_state : Cond.instanceMethod yX11_state ∈ lw_ok := ok_2 104 rfl rfl
theorem mq_X11_state : Cond.selects yX11_state.cls yX11_state yX11_state ∈ lw_ok := ok_2 105 rfl rfl
theorem mb_X7_forget : Cond.initialized yX7_forget.cls ∈ lw_ok ∧ Cond.code yX7_forget cX7_forget 1 none ∈ lw_ok ∧ (yX7_forget.cls ≠ "java/lang/invoke/MethodHandle" ∧ yX7_forget.cls ≠ "java/lang/invoke/VarHandle" ∧ (parseMethodDescriptor yX7_forget.desc).map (fun d => d.parameters.length) = some 0) := ⟨ok_1 8 rfl rfl, ok_2 110 rfl rfl, by decide +kernel⟩
theorem mi_X7_forget : Cond.instanceMethod yX7_forget ∈ lw_ok := ok_2 108 rfl rfl
theorem mq_X7_forget : Cond.selects yX7_forget.cls yX7_forget yX7_forget ∈ lw_ok := ok_2 109 rfl rfl
theorem mb_X11_voter : Cond.initialized yX11_voter.cls ∈ lw_ok ∧ Cond.code yX11_voter cX11_voter 7 (some .int) ∈ lw_ok ∧ (yX11_voter.cls ≠ "java/lang/invoke/MethodHandle" ∧ yX11_voter.cls ≠ "java/lang/invoke/VarHandle" ∧ (parseMethodDescriptor yX11_voter.desc).map (fun d => d.parameters.length) = some 4) := ⟨ok_1 1 rfl rfl, ok_2 114 rfl rfl, by decide +kernel⟩
theorem mi_X11_voter : Cond.instanceMethod yX11_voter ∈ lw_ok := ok_2 112 rfl rfl
theorem mq_X11_voter : Cond.selects yX11_voter.cls yX11_voter yX11_voter ∈ lw_ok := ok_2 113 rfl rfl
theorem mb_X11_traitCan : Cond.initialized yX11_traitCan.cls ∈ lw_ok ∧ Cond.code yX11_traitCan cX11_traitCan 2 (some .boolean) ∈ lw_ok ∧ (yX11_traitCan.cls ≠ "java/lang/invoke/MethodHandle" ∧ yX11_traitCan.cls ≠ "java/lang/invoke/VarHandle" ∧ (parseMethodDescriptor yX11_traitCan.desc).map (fun d => d.parameters.length) = some 2) := ⟨ok_1 1 rfl rfl, ok_2 117 rfl rfl, by decide +kernel⟩
theorem mt_X11_traitCan : Cond.static yX11_traitCan ∈ lw_ok := ok_2 116 rfl rfl
theorem mb_X0_setTrait : Cond.initialized yX0_setTrait.cls ∈ lw_ok ∧ Cond.code yX0_setTrait cX0_setTrait 4 none ∈ lw_ok ∧ (yX0_setTrait.cls ≠ "java/lang/invoke/MethodHandle" ∧ yX0_setTrait.cls ≠ "java/lang/invoke/VarHandle" ∧ (parseMethodDescriptor yX0_setTrait.desc).map (fun d => d.parameters.length) = some 3) := ⟨ok_1 3 rfl rfl, ok_2 121 rfl rfl, by decide +kernel⟩
theorem mi_X0_setTrait : Cond.instanceMethod yX0_setTrait ∈ lw_ok := ok_2 119 rfl rfl
theorem mq_X0_setTrait : Cond.selects yX0_setTrait.cls yX0_setTrait yX0_setTrait ∈ lw_ok := ok_2 120 rfl rfl
theorem mb_X0_has : Cond.initialized yX0_has.cls ∈ lw_ok ∧ Cond.code yX0_has cX0_has 2 (some .boolean) ∈ lw_ok ∧ (yX0_has.cls ≠ "java/lang/invoke/MethodHandle" ∧ yX0_has.cls ≠ "java/lang/invoke/VarHandle" ∧ (parseMethodDescriptor yX0_has.desc).map (fun d => d.parameters.length) = some 1) := ⟨ok_1 3 rfl rfl, ok_2 125 rfl rfl, by decide +kernel⟩
theorem mi_X0_has : Cond.instanceMethod yX0_has ∈ lw_ok := ok_2 123 rfl rfl
theorem mq_X0_has : Cond.selects yX0_has.cls yX0_has yX0_has ∈ lw_ok := ok_2 124 rfl rfl
theorem mb_X11_set : Cond.initialized yX11_set.cls ∈ lw_ok ∧ Cond.code yX11_set cX11_set 4 (some .boolean) ∈ lw_ok ∧ (yX11_set.cls ≠ "java/lang/invoke/MethodHandle" ∧ yX11_set.cls ≠ "java/lang/invoke/VarHandle" ∧ (parseMethodDescriptor yX11_set.desc).map (fun d => d.parameters.length) = some 3) := ⟨ok_1 1 rfl rfl, ok_2 129 rfl rfl, by decide +kernel⟩
theorem mi_X11_set : Cond.instanceMethod yX11_set ∈ lw_ok := ok_2 127 rfl rfl
theorem mq_X11_set : Cond.selects yX11_set.cls yX11_set yX11_set ∈ lw_ok := ok_2 128 rfl rfl
theorem mb_X11_press : Cond.initialized yX11_press.cls ∈ lw_ok ∧ Cond.code yX11_press cX11_press 3 (some .int) ∈ lw_ok ∧ (yX11_press.cls ≠ "java/lang/invoke/MethodHandle" ∧ yX11_press.cls ≠ "java/lang/invoke/VarHandle" ∧ (parseMethodDescriptor yX11_press.desc).map (fun d => d.parameters.length) = some 2) := ⟨ok_1 1 rfl rfl, ok_2 134 rfl rfl, by decide +kernel⟩
theorem mi_X11_press : Cond.instanceMethod yX11_press ∈ lw_ok := ok_2 132 rfl rfl
theorem mq_X11_press : Cond.selects yX11_press.cls yX11_press yX11_press ∈ lw_ok := ok_2 133 rfl rfl
theorem mb_X0_mayPress : Cond.initialized yX0_mayPress.cls ∈ lw_ok ∧ Cond.code yX0_mayPress cX0_mayPress 2 (some .boolean) ∈ lw_ok ∧ (yX0_mayPress.cls ≠ "java/lang/invoke/MethodHandle" ∧ yX0_mayPress.cls ≠ "java/lang/invoke/VarHandle" ∧ (parseMethodDescriptor yX0_mayPress.desc).map (fun d => d.parameters.length) = some 1) := ⟨ok_1 3 rfl rfl, ok_2 138 rfl rfl, by decide +kernel⟩
theorem mi_X0_mayPress : Cond.instanceMethod yX0_mayPress ∈ lw_ok := ok_2 136 rfl rfl
theorem mq_X0_mayPress : Cond.selects yX0_mayPress.cls yX0_mayPress yX0_mayPress ∈ lw_ok := ok_2 137 rfl rfl
theorem mb_X0_trait : Cond.initialized yX0_trait.cls ∈ lw_ok ∧ Cond.code yX0_trait cX0_trait 4 (some .int) ∈ lw_ok ∧ (yX0_trait.cls ≠ "java/lang/invoke/MethodHandle" ∧ yX0_trait.cls ≠ "java/lang/invoke/VarHandle" ∧ (parseMethodDescriptor yX0_trait.desc).map (fun d => d.parameters.length) = some 2) := ⟨ok_1 3 rfl rfl, ok_2 142 rfl rfl, by decide +kernel⟩
theorem mi_X0_trait : Cond.instanceMethod yX0_trait ∈ lw_ok := ok_2 140 rfl rfl
theorem mq_X0_trait : Cond.selects yX0_trait.cls yX0_trait yX0_trait ∈ lw_ok := ok_2 141 rfl rfl
theorem mb_X7_keep : Cond.initialized yX7_keep.cls ∈ lw_ok ∧ Cond.code yX7_keep cX7_keep 2 none ∈ lw_ok ∧ (yX7_keep.cls ≠ "java/lang/invoke/MethodHandle" ∧ yX7_keep.cls ≠ "java/lang/invoke/VarHandle" ∧ (parseMethodDescriptor yX7_keep.desc).map (fun d => d.parameters.length) = some 1) := ⟨ok_1 8 rfl rfl, ok_2 146 rfl rfl, by decide +kernel⟩
theorem mi_X7_keep : Cond.instanceMethod yX7_keep ∈ lw_ok := ok_2 144 rfl rfl
theorem mq_X7_keep : Cond.selects yX7_keep.cls yX7_keep yX7_keep ∈ lw_ok := ok_2 145 rfl rfl
theorem mb_X0_takeOver : Cond.initialized yX0_takeOver.cls ∈ lw_ok ∧ Cond.code yX0_takeOver cX0_takeOver 2 none ∈ lw_ok ∧ (yX0_takeOver.cls ≠ "java/lang/invoke/MethodHandle" ∧ yX0_takeOver.cls ≠ "java/lang/invoke/VarHandle" ∧ (parseMethodDescriptor yX0_takeOver.desc).map (fun d => d.parameters.length) = some 1) := ⟨ok_1 3 rfl rfl, ok_2 150 rfl rfl, by decide +kernel⟩
theorem mi_X0_takeOver : Cond.instanceMethod yX0_takeOver ∈ lw_ok := ok_2 148 rfl rfl
theorem mq_X0_takeOver : Cond.selects yX0_takeOver.cls yX0_takeOver yX0_takeOver ∈ lw_ok := ok_2 149 rfl rfl
theorem mb_J9_min_7cf53 : Cond.initialized yJ9_min_7cf53.cls ∈ lw_ok ∧ Cond.code yJ9_min_7cf53 cJ9_min_7cf53 2 (some .int) ∈ lw_ok ∧ (yJ9_min_7cf53.cls ≠ "java/lang/invoke/MethodHandle" ∧ yJ9_min_7cf53.cls ≠ "java/lang/invoke/VarHandle" ∧ (parseMethodDescriptor yJ9_min_7cf53.desc).map (fun d => d.parameters.length) = some 2) := ⟨ok_1 7 rfl rfl, ok_2 156 rfl rfl, by decide +kernel⟩
theorem mt_J9_min_7cf53 : Cond.static yJ9_min_7cf53 ∈ lw_ok := ok_2 155 rfl rfl
theorem mb_X1_leaveThumb : Cond.initialized yX1_leaveThumb.cls ∈ lw_ok ∧ Cond.code yX1_leaveThumb cX1_leaveThumb 8 (some .int) ∈ lw_ok ∧ (yX1_leaveThumb.cls ≠ "java/lang/invoke/MethodHandle" ∧ yX1_leaveThumb.cls ≠ "java/lang/invoke/VarHandle" ∧ (parseMethodDescriptor yX1_leaveThumb.desc).map (fun d => d.parameters.length) = some 2) := ⟨ok_1 13 rfl rfl, ok_2 160 rfl rfl, by decide +kernel⟩
theorem mi_X1_leaveThumb : Cond.instanceMethod yX1_leaveThumb ∈ lw_ok := ok_2 158 rfl rfl
theorem mq_X1_leaveThumb : Cond.selects yX1_leaveThumb.cls yX1_leaveThumb yX1_leaveThumb ∈ lw_ok := ok_2 159 rfl rfl
theorem mb_X0_marked : Cond.initialized yX0_marked.cls ∈ lw_ok ∧ Cond.code yX0_marked cX0_marked 2 (some .boolean) ∈ lw_ok ∧ (yX0_marked.cls ≠ "java/lang/invoke/MethodHandle" ∧ yX0_marked.cls ≠ "java/lang/invoke/VarHandle" ∧ (parseMethodDescriptor yX0_marked.desc).map (fun d => d.parameters.length) = some 1) := ⟨ok_1 3 rfl rfl, ok_2 165 rfl rfl, by decide +kernel⟩
theorem mi_X0_marked : Cond.instanceMethod yX0_marked ∈ lw_ok := ok_2 163 rfl rfl
theorem mq_X0_marked : Cond.selects yX0_marked.cls yX0_marked yX0_marked ∈ lw_ok := ok_2 164 rfl rfl
theorem mb_X0_putMark : Cond.initialized yX0_putMark.cls ∈ lw_ok ∧ Cond.code yX0_putMark cX0_putMark 5 none ∈ lw_ok ∧ (yX0_putMark.cls ≠ "java/lang/invoke/MethodHandle" ∧ yX0_putMark.cls ≠ "java/lang/invoke/VarHandle" ∧ (parseMethodDescriptor yX0_putMark.desc).map (fun d => d.parameters.length) = some 4) := ⟨ok_1 3 rfl rfl, ok_2 170 rfl rfl, by decide +kernel⟩
theorem mi_X0_putMark : Cond.instanceMethod yX0_putMark ∈ lw_ok := ok_2 168 rfl rfl
theorem mq_X0_putMark : Cond.selects yX0_putMark.cls yX0_putMark yX0_putMark ∈ lw_ok := ok_2 169 rfl rfl
theorem mb_X1_note : Cond.initialized yX1_note.cls ∈ lw_ok ∧ Cond.code yX1_note cX1_note 4 none ∈ lw_ok ∧ (yX1_note.cls ≠ "java/lang/invoke/MethodHandle" ∧ yX1_note.cls ≠ "java/lang/invoke/VarHandle" ∧ (parseMethodDescriptor yX1_note.desc).map (fun d => d.parameters.length) = some 3) := ⟨ok_1 13 rfl rfl, ok_2 175 rfl rfl, by decide +kernel⟩
theorem mi_X1_note : Cond.instanceMethod yX1_note ∈ lw_ok := ok_2 174 rfl rfl
theorem mq_X1_note : Cond.selects yX1_note.cls yX1_note yX1_note ∈ lw_ok := ok_p 0 rfl rfl
theorem mb_X3_write : Cond.initialized yX3_write.cls ∈ lw_ok ∧ Cond.code yX3_write cX3_write 7 (some .int) ∈ lw_ok ∧ (yX3_write.cls ≠ "java/lang/invoke/MethodHandle" ∧ yX3_write.cls ≠ "java/lang/invoke/VarHandle" ∧ (parseMethodDescriptor yX3_write.desc).map (fun d => d.parameters.length) = some 5) := ⟨ok_1 4 rfl rfl, ok_2 179 rfl rfl, by decide +kernel⟩
theorem mi_X3_write : Cond.instanceMethod yX3_write ∈ lw_ok := ok_2 177 rfl rfl
theorem mq_X3_write : Cond.selects yX3_write.cls yX3_write yX3_write ∈ lw_ok := ok_2 178 rfl rfl
theorem mb_X11_lift : Cond.initialized yX11_lift.cls ∈ lw_ok ∧ Cond.code yX11_lift cX11_lift 4 (some .boolean) ∈ lw_ok ∧ (yX11_lift.cls ≠ "java/lang/invoke/MethodHandle" ∧ yX11_lift.cls ≠ "java/lang/invoke/VarHandle" ∧ (parseMethodDescriptor yX11_lift.desc).map (fun d => d.parameters.length) = some 2) := ⟨ok_1 1 rfl rfl, ok_2 183 rfl rfl, by decide +kernel⟩
theorem mi_X11_lift : Cond.instanceMethod yX11_lift ∈ lw_ok := ok_2 181 rfl rfl
theorem mq_X11_lift : Cond.selects yX11_lift.cls yX11_lift yX11_lift ∈ lw_ok := ok_2 182 rfl rfl
theorem mb_X11_cellAt : Cond.initialized yX11_cellAt.cls ∈ lw_ok ∧ Cond.code yX11_cellAt cX11_cellAt 3 (some .int) ∈ lw_ok ∧ (yX11_cellAt.cls ≠ "java/lang/invoke/MethodHandle" ∧ yX11_cellAt.cls ≠ "java/lang/invoke/VarHandle" ∧ (parseMethodDescriptor yX11_cellAt.desc).map (fun d => d.parameters.length) = some 2) := ⟨ok_1 1 rfl rfl, ok_2 186 rfl rfl, by decide +kernel⟩
theorem mt_X11_cellAt : Cond.static yX11_cellAt ∈ lw_ok := ok_2 185 rfl rfl
theorem mb_X1_takeAway : Cond.initialized yX1_takeAway.cls ∈ lw_ok ∧ Cond.code yX1_takeAway cX1_takeAway 4 none ∈ lw_ok ∧ (yX1_takeAway.cls ≠ "java/lang/invoke/MethodHandle" ∧ yX1_takeAway.cls ≠ "java/lang/invoke/VarHandle" ∧ (parseMethodDescriptor yX1_takeAway.desc).map (fun d => d.parameters.length) = some 2) := ⟨ok_1 13 rfl rfl, ok_2 191 rfl rfl, by decide +kernel⟩
theorem mi_X1_takeAway : Cond.instanceMethod yX1_takeAway ∈ lw_ok := ok_2 189 rfl rfl
theorem mq_X1_takeAway : Cond.selects yX1_takeAway.cls yX1_takeAway yX1_takeAway ∈ lw_ok := ok_2 190 rfl rfl
theorem mb_X0_owner : Cond.initialized yX0_owner.cls ∈ lw_ok ∧ Cond.code yX0_owner cX0_owner 3 (some .int) ∈ lw_ok ∧ (yX0_owner.cls ≠ "java/lang/invoke/MethodHandle" ∧ yX0_owner.cls ≠ "java/lang/invoke/VarHandle" ∧ (parseMethodDescriptor yX0_owner.desc).map (fun d => d.parameters.length) = some 1) := ⟨ok_1 3 rfl rfl, ok_2 195 rfl rfl, by decide +kernel⟩
theorem mi_X0_owner : Cond.instanceMethod yX0_owner ∈ lw_ok := ok_2 193 rfl rfl
theorem mq_X0_owner : Cond.selects yX0_owner.cls yX0_owner yX0_owner ∈ lw_ok := ok_2 194 rfl rfl
theorem mb_X0_mark : Cond.initialized yX0_mark.cls ∈ lw_ok ∧ Cond.code yX0_mark cX0_mark 2 (some .int) ∈ lw_ok ∧ (yX0_mark.cls ≠ "java/lang/invoke/MethodHandle" ∧ yX0_mark.cls ≠ "java/lang/invoke/VarHandle" ∧ (parseMethodDescriptor yX0_mark.desc).map (fun d => d.parameters.length) = some 1) := ⟨ok_1 3 rfl rfl, ok_2 199 rfl rfl, by decide +kernel⟩
theorem mi_X0_mark : Cond.instanceMethod yX0_mark ∈ lw_ok := ok_2 198 rfl rfl
theorem mq_X0_mark : Cond.selects yX0_mark.cls yX0_mark yX0_mark ∈ lw_ok := ok_p 1 rfl rfl
theorem mb_J9_abs_0f7a4 : Cond.initialized yJ9_abs_0f7a4.cls ∈ lw_ok ∧ Cond.code yJ9_abs_0f7a4 cJ9_abs_0f7a4 1 (some .int) ∈ lw_ok ∧ (yJ9_abs_0f7a4.cls ≠ "java/lang/invoke/MethodHandle" ∧ yJ9_abs_0f7a4.cls ≠ "java/lang/invoke/VarHandle" ∧ (parseMethodDescriptor yJ9_abs_0f7a4.desc).map (fun d => d.parameters.length) = some 1) := ⟨ok_1 7 rfl rfl, ok_2 202 rfl rfl, by decide +kernel⟩
theorem mt_J9_abs_0f7a4 : Cond.static yJ9_abs_0f7a4 ∈ lw_ok := ok_2 201 rfl rfl
theorem mb_X0_takeMark : Cond.initialized yX0_takeMark.cls ∈ lw_ok ∧ Cond.code yX0_takeMark cX0_takeMark 2 none ∈ lw_ok ∧ (yX0_takeMark.cls ≠ "java/lang/invoke/MethodHandle" ∧ yX0_takeMark.cls ≠ "java/lang/invoke/VarHandle" ∧ (parseMethodDescriptor yX0_takeMark.desc).map (fun d => d.parameters.length) = some 1) := ⟨ok_1 3 rfl rfl, ok_2 206 rfl rfl, by decide +kernel⟩
theorem mi_X0_takeMark : Cond.instanceMethod yX0_takeMark ∈ lw_ok := ok_2 204 rfl rfl
theorem mq_X0_takeMark : Cond.selects yX0_takeMark.cls yX0_takeMark yX0_takeMark ∈ lw_ok := ok_2 205 rfl rfl
theorem mb_X11_hand : Cond.initialized yX11_hand.cls ∈ lw_ok ∧ Cond.code yX11_hand cX11_hand 3 (some .boolean) ∈ lw_ok ∧ (yX11_hand.cls ≠ "java/lang/invoke/MethodHandle" ∧ yX11_hand.cls ≠ "java/lang/invoke/VarHandle" ∧ (parseMethodDescriptor yX11_hand.desc).map (fun d => d.parameters.length) = some 2) := ⟨ok_1 1 rfl rfl, ok_2 210 rfl rfl, by decide +kernel⟩
theorem mi_X11_hand : Cond.instanceMethod yX11_hand ∈ lw_ok := ok_2 208 rfl rfl
theorem mq_X11_hand : Cond.selects yX11_hand.cls yX11_hand yX11_hand ∈ lw_ok := ok_2 209 rfl rfl
theorem mb_X11_hours : Cond.initialized yX11_hours.cls ∈ lw_ok ∧ Cond.code yX11_hours cX11_hours 4 (some .int) ∈ lw_ok ∧ (yX11_hours.cls ≠ "java/lang/invoke/MethodHandle" ∧ yX11_hours.cls ≠ "java/lang/invoke/VarHandle" ∧ (parseMethodDescriptor yX11_hours.desc).map (fun d => d.parameters.length) = some 1) := ⟨ok_1 1 rfl rfl, ok_2 215 rfl rfl, by decide +kernel⟩
theorem mi_X11_hours : Cond.instanceMethod yX11_hours ∈ lw_ok := ok_2 213 rfl rfl
theorem mq_X11_hours : Cond.selects yX11_hours.cls yX11_hours yX11_hours ∈ lw_ok := ok_2 214 rfl rfl
theorem mb_X1_oneHour : Cond.initialized yX1_oneHour.cls ∈ lw_ok ∧ Cond.code yX1_oneHour cX1_oneHour 2 (some .int) ∈ lw_ok ∧ (yX1_oneHour.cls ≠ "java/lang/invoke/MethodHandle" ∧ yX1_oneHour.cls ≠ "java/lang/invoke/VarHandle" ∧ (parseMethodDescriptor yX1_oneHour.desc).map (fun d => d.parameters.length) = some 0) := ⟨ok_1 13 rfl rfl, ok_2 219 rfl rfl, by decide +kernel⟩
theorem mi_X1_oneHour : Cond.instanceMethod yX1_oneHour ∈ lw_ok := ok_2 217 rfl rfl
theorem mq_X1_oneHour : Cond.selects yX1_oneHour.cls yX1_oneHour yX1_oneHour ∈ lw_ok := ok_2 218 rfl rfl
theorem mb_X1_skyOfHour : Cond.initialized yX1_skyOfHour.cls ∈ lw_ok ∧ Cond.code yX1_skyOfHour cX1_skyOfHour 4 none ∈ lw_ok ∧ (yX1_skyOfHour.cls ≠ "java/lang/invoke/MethodHandle" ∧ yX1_skyOfHour.cls ≠ "java/lang/invoke/VarHandle" ∧ (parseMethodDescriptor yX1_skyOfHour.desc).map (fun d => d.parameters.length) = some 0) := ⟨ok_1 13 rfl rfl, ok_2 223 rfl rfl, by decide +kernel⟩
theorem mi_X1_skyOfHour : Cond.instanceMethod yX1_skyOfHour ∈ lw_ok := ok_2 222 rfl rfl
theorem mq_X1_skyOfHour : Cond.selects yX1_skyOfHour.cls yX1_skyOfHour yX1_skyOfHour ∈ lw_ok := ok_p 2 rfl rfl
theorem mb_X8_number : Cond.initialized yX8_number.cls ∈ lw_ok ∧ Cond.code yX8_number cX8_number 4 (some .int) ∈ lw_ok ∧ (yX8_number.cls ≠ "java/lang/invoke/MethodHandle" ∧ yX8_number.cls ≠ "java/lang/invoke/VarHandle" ∧ (parseMethodDescriptor yX8_number.desc).map (fun d => d.parameters.length) = some 2) := ⟨ok_1 5 rfl rfl, ok_2 227 rfl rfl, by decide +kernel⟩
theorem mi_X8_number : Cond.instanceMethod yX8_number ∈ lw_ok := ok_2 225 rfl rfl
theorem mq_X8_number : Cond.selects yX8_number.cls yX8_number yX8_number ∈ lw_ok := ok_2 226 rfl rfl
theorem mb_X1_thumbsOfHour : Cond.initialized yX1_thumbsOfHour.cls ∈ lw_ok ∧ Cond.code yX1_thumbsOfHour cX1_thumbsOfHour 5 (some .int) ∈ lw_ok ∧ (yX1_thumbsOfHour.cls ≠ "java/lang/invoke/MethodHandle" ∧ yX1_thumbsOfHour.cls ≠ "java/lang/invoke/VarHandle" ∧ (parseMethodDescriptor yX1_thumbsOfHour.desc).map (fun d => d.parameters.length) = some 0) := ⟨ok_1 13 rfl rfl, ok_2 232 rfl rfl, by decide +kernel⟩
theorem mi_X1_thumbsOfHour : Cond.instanceMethod yX1_thumbsOfHour ∈ lw_ok := ok_2 231 rfl rfl
theorem mq_X1_thumbsOfHour : Cond.selects yX1_thumbsOfHour.cls yX1_thumbsOfHour yX1_thumbsOfHour ∈ lw_ok := ok_p 3 rfl rfl
theorem mb_X1_comes : Cond.initialized yX1_comes.cls ∈ lw_ok ∧ Cond.code yX1_comes cX1_comes 3 (some .int) ∈ lw_ok ∧ (yX1_comes.cls ≠ "java/lang/invoke/MethodHandle" ∧ yX1_comes.cls ≠ "java/lang/invoke/VarHandle" ∧ (parseMethodDescriptor yX1_comes.desc).map (fun d => d.parameters.length) = some 1) := ⟨ok_1 13 rfl rfl, ok_2 237 rfl rfl, by decide +kernel⟩
theorem mi_X1_comes : Cond.instanceMethod yX1_comes ∈ lw_ok := ok_2 235 rfl rfl
theorem mq_X1_comes : Cond.selects yX1_comes.cls yX1_comes yX1_comes ∈ lw_ok := ok_2 236 rfl rfl
theorem mb_X1_layValues : Cond.initialized yX1_layValues.cls ∈ lw_ok ∧ Cond.code yX1_layValues cX1_layValues 4 none ∈ lw_ok ∧ (yX1_layValues.cls ≠ "java/lang/invoke/MethodHandle" ∧ yX1_layValues.cls ≠ "java/lang/invoke/VarHandle" ∧ (parseMethodDescriptor yX1_layValues.desc).map (fun d => d.parameters.length) = some 2) := ⟨ok_1 13 rfl rfl, ok_3 1 rfl rfl, by decide +kernel⟩
theorem mi_X1_layValues : Cond.instanceMethod yX1_layValues ∈ lw_ok := ok_3 0 rfl rfl
theorem mq_X1_layValues : Cond.selects yX1_layValues.cls yX1_layValues yX1_layValues ∈ lw_ok := ok_p 4 rfl rfl
theorem mb_X0_way : Cond.initialized yX0_way.cls ∈ lw_ok ∧ Cond.code yX0_way cX0_way 2 (some .int) ∈ lw_ok ∧ (yX0_way.cls ≠ "java/lang/invoke/MethodHandle" ∧ yX0_way.cls ≠ "java/lang/invoke/VarHandle" ∧ (parseMethodDescriptor yX0_way.desc).map (fun d => d.parameters.length) = some 1) := ⟨ok_1 3 rfl rfl, ok_3 5 rfl rfl, by decide +kernel⟩
theorem mi_X0_way : Cond.instanceMethod yX0_way ∈ lw_ok := ok_3 3 rfl rfl
theorem mq_X0_way : Cond.selects yX0_way.cls yX0_way yX0_way ∈ lw_ok := ok_3 4 rfl rfl
theorem mb_J6_compare_7cf53 : Cond.initialized yJ6_compare_7cf53.cls ∈ lw_ok ∧ Cond.code yJ6_compare_7cf53 cJ6_compare_7cf53 2 (some .int) ∈ lw_ok ∧ (yJ6_compare_7cf53.cls ≠ "java/lang/invoke/MethodHandle" ∧ yJ6_compare_7cf53.cls ≠ "java/lang/invoke/VarHandle" ∧ (parseMethodDescriptor yJ6_compare_7cf53.desc).map (fun d => d.parameters.length) = some 2) := ⟨ok_1 16 rfl rfl, ok_3 8 rfl rfl, by decide +kernel⟩
theorem mt_J6_compare_7cf53 : Cond.static yJ6_compare_7cf53 ∈ lw_ok := ok_3 7 rfl rfl
theorem mb_X0_depth : Cond.initialized yX0_depth.cls ∈ lw_ok ∧ Cond.code yX0_depth cX0_depth 2 (some .int) ∈ lw_ok ∧ (yX0_depth.cls ≠ "java/lang/invoke/MethodHandle" ∧ yX0_depth.cls ≠ "java/lang/invoke/VarHandle" ∧ (parseMethodDescriptor yX0_depth.desc).map (fun d => d.parameters.length) = some 1) := ⟨ok_1 3 rfl rfl, ok_3 12 rfl rfl, by decide +kernel⟩
theorem mi_X0_depth : Cond.instanceMethod yX0_depth ∈ lw_ok := ok_3 10 rfl rfl
theorem mq_X0_depth : Cond.selects yX0_depth.cls yX0_depth yX0_depth ∈ lw_ok := ok_3 11 rfl rfl
theorem mb_X0_besides : Cond.initialized yX0_besides.cls ∈ lw_ok ∧ Cond.code yX0_besides cX0_besides 4 (some .int) ∈ lw_ok ∧ (yX0_besides.cls ≠ "java/lang/invoke/MethodHandle" ∧ yX0_besides.cls ≠ "java/lang/invoke/VarHandle" ∧ (parseMethodDescriptor yX0_besides.desc).map (fun d => d.parameters.length) = some 1) := ⟨ok_1 3 rfl rfl, ok_3 16 rfl rfl, by decide +kernel⟩
theorem mi_X0_besides : Cond.instanceMethod yX0_besides ∈ lw_ok := ok_3 14 rfl rfl
theorem mq_X0_besides : Cond.selects yX0_besides.cls yX0_besides yX0_besides ∈ lw_ok := ok_3 15 rfl rfl
theorem mb_X8_tells : Cond.initialized yX8_tells.cls ∈ lw_ok ∧ Cond.code yX8_tells cX8_tells 9 (some .int) ∈ lw_ok ∧ (yX8_tells.cls ≠ "java/lang/invoke/MethodHandle" ∧ yX8_tells.cls ≠ "java/lang/invoke/VarHandle" ∧ (parseMethodDescriptor yX8_tells.desc).map (fun d => d.parameters.length) = some 4) := ⟨ok_1 5 rfl rfl, ok_3 21 rfl rfl, by decide +kernel⟩
theorem mi_X8_tells : Cond.instanceMethod yX8_tells ∈ lw_ok := ok_3 19 rfl rfl
theorem mq_X8_tells : Cond.selects yX8_tells.cls yX8_tells yX8_tells ∈ lw_ok := ok_3 20 rfl rfl
theorem mb_X8_run : Cond.initialized yX8_run.cls ∈ lw_ok ∧ Cond.code yX8_run cX8_run 9 (some .int) ∈ lw_ok ∧ (yX8_run.cls ≠ "java/lang/invoke/MethodHandle" ∧ yX8_run.cls ≠ "java/lang/invoke/VarHandle" ∧ (parseMethodDescriptor yX8_run.desc).map (fun d => d.parameters.length) = some 4) := ⟨ok_1 5 rfl rfl, ok_3 26 rfl rfl, by decide +kernel⟩
theorem mi_X8_run : Cond.instanceMethod yX8_run ∈ lw_ok := ok_3 25 rfl rfl
theorem mq_X8_run : Cond.selects yX8_run.cls yX8_run yX8_run ∈ lw_ok := ok_p 5 rfl rfl
theorem mb_X8_part : Cond.initialized yX8_part.cls ∈ lw_ok ∧ Cond.code yX8_part cX8_part 2 (some .int) ∈ lw_ok ∧ (yX8_part.cls ≠ "java/lang/invoke/MethodHandle" ∧ yX8_part.cls ≠ "java/lang/invoke/VarHandle" ∧ (parseMethodDescriptor yX8_part.desc).map (fun d => d.parameters.length) = some 2) := ⟨ok_1 5 rfl rfl, ok_3 30 rfl rfl, by decide +kernel⟩
theorem mt_X8_part : Cond.static yX8_part ∈ lw_ok := ok_3 29 rfl rfl
theorem mb_X8_join : Cond.initialized yX8_join.cls ∈ lw_ok ∧ Cond.code yX8_join cX8_join 3 (some .int) ∈ lw_ok ∧ (yX8_join.cls ≠ "java/lang/invoke/MethodHandle" ∧ yX8_join.cls ≠ "java/lang/invoke/VarHandle" ∧ (parseMethodDescriptor yX8_join.desc).map (fun d => d.parameters.length) = some 3) := ⟨ok_1 5 rfl rfl, ok_3 33 rfl rfl, by decide +kernel⟩
theorem mt_X8_join : Cond.static yX8_join ∈ lw_ok := ok_3 32 rfl rfl
theorem mb_X1_held : Cond.initialized yX1_held.cls ∈ lw_ok ∧ Cond.code yX1_held cX1_held 2 (some .int) ∈ lw_ok ∧ (yX1_held.cls ≠ "java/lang/invoke/MethodHandle" ∧ yX1_held.cls ≠ "java/lang/invoke/VarHandle" ∧ (parseMethodDescriptor yX1_held.desc).map (fun d => d.parameters.length) = some 2) := ⟨ok_1 13 rfl rfl, ok_3 36 rfl rfl, by decide +kernel⟩
theorem mt_X1_held : Cond.static yX1_held ∈ lw_ok := ok_3 35 rfl rfl
theorem mb_X1_happens : Cond.initialized yX1_happens.cls ∈ lw_ok ∧ Cond.code yX1_happens cX1_happens 2 (some .boolean) ∈ lw_ok ∧ (yX1_happens.cls ≠ "java/lang/invoke/MethodHandle" ∧ yX1_happens.cls ≠ "java/lang/invoke/VarHandle" ∧ (parseMethodDescriptor yX1_happens.desc).map (fun d => d.parameters.length) = some 1) := ⟨ok_1 13 rfl rfl, ok_3 41 rfl rfl, by decide +kernel⟩
theorem mi_X1_happens : Cond.instanceMethod yX1_happens ∈ lw_ok := ok_3 40 rfl rfl
theorem mq_X1_happens : Cond.selects yX1_happens.cls yX1_happens yX1_happens ∈ lw_ok := ok_p 6 rfl rfl
theorem mb_X0_drawThousand : Cond.initialized yX0_drawThousand.cls ∈ lw_ok ∧ Cond.code yX0_drawThousand cX0_drawThousand 1 (some .int) ∈ lw_ok ∧ (yX0_drawThousand.cls ≠ "java/lang/invoke/MethodHandle" ∧ yX0_drawThousand.cls ≠ "java/lang/invoke/VarHandle" ∧ (parseMethodDescriptor yX0_drawThousand.desc).map (fun d => d.parameters.length) = some 0) := ⟨ok_1 3 rfl rfl, ok_3 45 rfl rfl, by decide +kernel⟩
theorem mi_X0_drawThousand : Cond.instanceMethod yX0_drawThousand ∈ lw_ok := ok_3 43 rfl rfl
theorem mq_X0_drawThousand : Cond.selects yX0_drawThousand.cls yX0_drawThousand yX0_drawThousand ∈ lw_ok := ok_3 44 rfl rfl
theorem mb_X1_meltAll : Cond.initialized yX1_meltAll.cls ∈ lw_ok ∧ Cond.code yX1_meltAll cX1_meltAll 2 none ∈ lw_ok ∧ (yX1_meltAll.cls ≠ "java/lang/invoke/MethodHandle" ∧ yX1_meltAll.cls ≠ "java/lang/invoke/VarHandle" ∧ (parseMethodDescriptor yX1_meltAll.desc).map (fun d => d.parameters.length) = some 0) := ⟨ok_1 13 rfl rfl, ok_3 52 rfl rfl, by decide +kernel⟩
theorem mi_X1_meltAll : Cond.instanceMethod yX1_meltAll ∈ lw_ok := ok_3 51 rfl rfl
theorem mq_X1_meltAll : Cond.selects yX1_meltAll.cls yX1_meltAll yX1_meltAll ∈ lw_ok := ok_p 7 rfl rfl
theorem mb_X1_melts : Cond.initialized yX1_melts.cls ∈ lw_ok ∧ Cond.code yX1_melts cX1_melts 3 (some .int) ∈ lw_ok ∧ (yX1_melts.cls ≠ "java/lang/invoke/MethodHandle" ∧ yX1_melts.cls ≠ "java/lang/invoke/VarHandle" ∧ (parseMethodDescriptor yX1_melts.desc).map (fun d => d.parameters.length) = some 1) := ⟨ok_1 13 rfl rfl, ok_3 56 rfl rfl, by decide +kernel⟩
theorem mi_X1_melts : Cond.instanceMethod yX1_melts ∈ lw_ok := ok_3 54 rfl rfl
theorem mq_X1_melts : Cond.selects yX1_melts.cls yX1_melts yX1_melts ∈ lw_ok := ok_3 55 rfl rfl
theorem mb_X0_thinMark : Cond.initialized yX0_thinMark.cls ∈ lw_ok ∧ Cond.code yX0_thinMark cX0_thinMark 2 none ∈ lw_ok ∧ (yX0_thinMark.cls ≠ "java/lang/invoke/MethodHandle" ∧ yX0_thinMark.cls ≠ "java/lang/invoke/VarHandle" ∧ (parseMethodDescriptor yX0_thinMark.desc).map (fun d => d.parameters.length) = some 1) := ⟨ok_1 3 rfl rfl, ok_3 60 rfl rfl, by decide +kernel⟩
theorem mi_X0_thinMark : Cond.instanceMethod yX0_thinMark ∈ lw_ok := ok_3 58 rfl rfl
theorem mq_X0_thinMark : Cond.selects yX0_thinMark.cls yX0_thinMark yX0_thinMark ∈ lw_ok := ok_3 59 rfl rfl
theorem mb_X1_readDoor : Cond.initialized yX1_readDoor.cls ∈ lw_ok ∧ Cond.code yX1_readDoor cX1_readDoor 2 none ∈ lw_ok ∧ (yX1_readDoor.cls ≠ "java/lang/invoke/MethodHandle" ∧ yX1_readDoor.cls ≠ "java/lang/invoke/VarHandle" ∧ (parseMethodDescriptor yX1_readDoor.desc).map (fun d => d.parameters.length) = some 0) := ⟨ok_1 13 rfl rfl, ok_3 66 rfl rfl, by decide +kernel⟩
theorem mi_X1_readDoor : Cond.instanceMethod yX1_readDoor ∈ lw_ok := ok_3 65 rfl rfl
theorem mq_X1_readDoor : Cond.selects yX1_readDoor.cls yX1_readDoor yX1_readDoor ∈ lw_ok := ok_p 8 rfl rfl
theorem mb_X1_sum : Cond.initialized yX1_sum.cls ∈ lw_ok ∧ Cond.code yX1_sum cX1_sum 3 (some .int) ∈ lw_ok ∧ (yX1_sum.cls ≠ "java/lang/invoke/MethodHandle" ∧ yX1_sum.cls ≠ "java/lang/invoke/VarHandle" ∧ (parseMethodDescriptor yX1_sum.desc).map (fun d => d.parameters.length) = some 0) := ⟨ok_1 13 rfl rfl, ok_3 70 rfl rfl, by decide +kernel⟩
theorem mi_X1_sum : Cond.instanceMethod yX1_sum ∈ lw_ok := ok_3 68 rfl rfl
theorem mq_X1_sum : Cond.selects yX1_sum.cls yX1_sum yX1_sum ∈ lw_ok := ok_3 69 rfl rfl
theorem mb_X1_weighs : Cond.initialized yX1_weighs.cls ∈ lw_ok ∧ Cond.code yX1_weighs cX1_weighs 2 (some .int) ∈ lw_ok ∧ (yX1_weighs.cls ≠ "java/lang/invoke/MethodHandle" ∧ yX1_weighs.cls ≠ "java/lang/invoke/VarHandle" ∧ (parseMethodDescriptor yX1_weighs.desc).map (fun d => d.parameters.length) = some 1) := ⟨ok_1 13 rfl rfl, ok_3 74 rfl rfl, by decide +kernel⟩
theorem mi_X1_weighs : Cond.instanceMethod yX1_weighs ∈ lw_ok := ok_3 72 rfl rfl
theorem mq_X1_weighs : Cond.selects yX1_weighs.cls yX1_weighs yX1_weighs ∈ lw_ok := ok_3 73 rfl rfl
theorem mb_X0_takeAllMarks : Cond.initialized yX0_takeAllMarks.cls ∈ lw_ok ∧ Cond.code yX0_takeAllMarks cX0_takeAllMarks 1 none ∈ lw_ok ∧ (yX0_takeAllMarks.cls ≠ "java/lang/invoke/MethodHandle" ∧ yX0_takeAllMarks.cls ≠ "java/lang/invoke/VarHandle" ∧ (parseMethodDescriptor yX0_takeAllMarks.desc).map (fun d => d.parameters.length) = some 0) := ⟨ok_1 3 rfl rfl, ok_3 78 rfl rfl, by decide +kernel⟩
theorem mi_X0_takeAllMarks : Cond.instanceMethod yX0_takeAllMarks ∈ lw_ok := ok_3 76 rfl rfl
theorem mq_X0_takeAllMarks : Cond.selects yX0_takeAllMarks.cls yX0_takeAllMarks yX0_takeAllMarks ∈ lw_ok := ok_3 77 rfl rfl
theorem mb_J7_fill_53178 : Cond.initialized yJ7_fill_53178.cls ∈ lw_ok ∧ Cond.code yJ7_fill_53178 cJ7_fill_53178 4 none ∈ lw_ok ∧ (yJ7_fill_53178.cls ≠ "java/lang/invoke/MethodHandle" ∧ yJ7_fill_53178.cls ≠ "java/lang/invoke/VarHandle" ∧ (parseMethodDescriptor yJ7_fill_53178.desc).map (fun d => d.parameters.length) = some 2) := ⟨ok_1 17 rfl rfl, ok_3 81 rfl rfl, by decide +kernel⟩
theorem mt_J7_fill_53178 : Cond.static yJ7_fill_53178 ∈ lw_ok := ok_3 80 rfl rfl
theorem mb_X11_feed : Cond.initialized yX11_feed.cls ∈ lw_ok ∧ Cond.code yX11_feed cX11_feed 6 (some .int) ∈ lw_ok ∧ (yX11_feed.cls ≠ "java/lang/invoke/MethodHandle" ∧ yX11_feed.cls ≠ "java/lang/invoke/VarHandle" ∧ (parseMethodDescriptor yX11_feed.desc).map (fun d => d.parameters.length) = some 5) := ⟨ok_1 1 rfl rfl, ok_3 85 rfl rfl, by decide +kernel⟩
theorem mi_X11_feed : Cond.instanceMethod yX11_feed ∈ lw_ok := ok_3 83 rfl rfl
theorem mq_X11_feed : Cond.selects yX11_feed.cls yX11_feed yX11_feed ∈ lw_ok := ok_3 84 rfl rfl
theorem mb_X5_take : Cond.initialized yX5_take.cls ∈ lw_ok ∧ Cond.code yX5_take cX5_take 3 none ∈ lw_ok ∧ (yX5_take.cls ≠ "java/lang/invoke/MethodHandle" ∧ yX5_take.cls ≠ "java/lang/invoke/VarHandle" ∧ (parseMethodDescriptor yX5_take.desc).map (fun d => d.parameters.length) = some 1) := ⟨ok_1 9 rfl rfl, ok_3 89 rfl rfl, by decide +kernel⟩
theorem mi_X5_take : Cond.instanceMethod yX5_take ∈ lw_ok := ok_3 87 rfl rfl
theorem mq_X5_take : Cond.selects yX5_take.cls yX5_take yX5_take ∈ lw_ok := ok_3 88 rfl rfl
theorem mb_X11_end : Cond.initialized yX11_end.cls ∈ lw_ok ∧ Cond.code yX11_end cX11_end 2 (some .boolean) ∈ lw_ok ∧ (yX11_end.cls ≠ "java/lang/invoke/MethodHandle" ∧ yX11_end.cls ≠ "java/lang/invoke/VarHandle" ∧ (parseMethodDescriptor yX11_end.desc).map (fun d => d.parameters.length) = some 1) := ⟨ok_1 1 rfl rfl, ok_3 93 rfl rfl, by decide +kernel⟩
theorem mi_X11_end : Cond.instanceMethod yX11_end ∈ lw_ok := ok_3 91 rfl rfl
theorem mq_X11_end : Cond.selects yX11_end.cls yX11_end yX11_end ∈ lw_ok := ok_3 92 rfl rfl
theorem mb_X11_text : Cond.initialized yX11_text.cls ∈ lw_ok ∧ Cond.code yX11_text cX11_text 3 (some .int) ∈ lw_ok ∧ (yX11_text.cls ≠ "java/lang/invoke/MethodHandle" ∧ yX11_text.cls ≠ "java/lang/invoke/VarHandle" ∧ (parseMethodDescriptor yX11_text.desc).map (fun d => d.parameters.length) = some 1) := ⟨ok_1 1 rfl rfl, ok_3 97 rfl rfl, by decide +kernel⟩
theorem mi_X11_text : Cond.instanceMethod yX11_text ∈ lw_ok := ok_3 95 rfl rfl
theorem mq_X11_text : Cond.selects yX11_text.cls yX11_text yX11_text ∈ lw_ok := ok_3 96 rfl rfl
theorem mb_X5_readTape : Cond.initialized yX5_readTape.cls ∈ lw_ok ∧ Cond.code yX5_readTape cX5_readTape 5 (some (.object "ThumbBallot$Text")) ∈ lw_ok ∧ (yX5_readTape.cls ≠ "java/lang/invoke/MethodHandle" ∧ yX5_readTape.cls ≠ "java/lang/invoke/VarHandle" ∧ (parseMethodDescriptor yX5_readTape.desc).map (fun d => d.parameters.length) = some 2) := ⟨ok_1 9 rfl rfl, ok_3 101 rfl rfl, by decide +kernel⟩
theorem mi_X5_readTape : Cond.instanceMethod yX5_readTape ∈ lw_ok := ok_3 99 rfl rfl
theorem mq_X5_readTape : Cond.selects yX5_readTape.cls yX5_readTape yX5_readTape ∈ lw_ok := ok_3 100 rfl rfl
theorem mb_X5_step : Cond.initialized yX5_step.cls ∈ lw_ok ∧ Cond.code yX5_step cX5_step 1 none ∈ lw_ok ∧ (yX5_step.cls ≠ "java/lang/invoke/MethodHandle" ∧ yX5_step.cls ≠ "java/lang/invoke/VarHandle" ∧ (parseMethodDescriptor yX5_step.desc).map (fun d => d.parameters.length) = some 0) := ⟨ok_1 9 rfl rfl, ok_3 105 rfl rfl, by decide +kernel⟩
theorem mi_X5_step : Cond.instanceMethod yX5_step ∈ lw_ok := ok_3 104 rfl rfl
theorem mq_X5_step : Cond.selects yX5_step.cls yX5_step yX5_step ∈ lw_ok := ok_p 9 rfl rfl
theorem mb_X5_letter : Cond.initialized yX5_letter.cls ∈ lw_ok ∧ Cond.code yX5_letter cX5_letter 1 (some .boolean) ∈ lw_ok ∧ (yX5_letter.cls ≠ "java/lang/invoke/MethodHandle" ∧ yX5_letter.cls ≠ "java/lang/invoke/VarHandle" ∧ (parseMethodDescriptor yX5_letter.desc).map (fun d => d.parameters.length) = some 1) := ⟨ok_1 9 rfl rfl, ok_3 108 rfl rfl, by decide +kernel⟩
theorem mt_X5_letter : Cond.static yX5_letter ∈ lw_ok := ok_3 107 rfl rfl
theorem mb_X5_wordOf : Cond.initialized yX5_wordOf.cls ∈ lw_ok ∧ Cond.code yX5_wordOf cX5_wordOf 8 (some .int) ∈ lw_ok ∧ (yX5_wordOf.cls ≠ "java/lang/invoke/MethodHandle" ∧ yX5_wordOf.cls ≠ "java/lang/invoke/VarHandle" ∧ (parseMethodDescriptor yX5_wordOf.desc).map (fun d => d.parameters.length) = some 2) := ⟨ok_1 9 rfl rfl, ok_3 112 rfl rfl, by decide +kernel⟩
theorem mi_X5_wordOf : Cond.instanceMethod yX5_wordOf ∈ lw_ok := ok_3 111 rfl rfl
theorem mq_X5_wordOf : Cond.selects yX5_wordOf.cls yX5_wordOf yX5_wordOf ∈ lw_ok := ok_p 10 rfl rfl
theorem mb_J0_length_8abf5 : Cond.initialized yJ0_length_8abf5.cls ∈ lw_ok ∧ Cond.code yJ0_length_8abf5 cJ0_length_8abf5 1 (some .int) ∈ lw_ok ∧ (yJ0_length_8abf5.cls ≠ "java/lang/invoke/MethodHandle" ∧ yJ0_length_8abf5.cls ≠ "java/lang/invoke/VarHandle" ∧ (parseMethodDescriptor yJ0_length_8abf5.desc).map (fun d => d.parameters.length) = some 0) := ⟨ok_1 18 rfl rfl, ok_3 117 rfl rfl, by decide +kernel⟩
theorem mi_J0_length_8abf5 : Cond.instanceMethod yJ0_length_8abf5 ∈ lw_ok := ok_3 115 rfl rfl
theorem mq_J0_length_8abf5 : Cond.selects yJ0_length_8abf5.cls yJ0_length_8abf5 yJ0_length_8abf5 ∈ lw_ok := ok_3 116 rfl rfl
theorem mb_J0_coder_7d493 : Cond.initialized yJ0_coder_7d493.cls ∈ lw_ok ∧ Cond.code yJ0_coder_7d493 cJ0_coder_7d493 1 (some .byte) ∈ lw_ok ∧ (yJ0_coder_7d493.cls ≠ "java/lang/invoke/MethodHandle" ∧ yJ0_coder_7d493.cls ≠ "java/lang/invoke/VarHandle" ∧ (parseMethodDescriptor yJ0_coder_7d493.desc).map (fun d => d.parameters.length) = some 0) := ⟨ok_1 18 rfl rfl, ok_3 121 rfl rfl, by decide +kernel⟩
theorem mi_J0_coder_7d493 : Cond.instanceMethod yJ0_coder_7d493 ∈ lw_ok := ok_3 119 rfl rfl
theorem mq_J0_coder_7d493 : Cond.selects yJ0_coder_7d493.cls yJ0_coder_7d493 yJ0_coder_7d493 ∈ lw_ok := ok_3 120 rfl rfl
theorem mb_J0_charAt_5068e : Cond.initialized yJ0_charAt_5068e.cls ∈ lw_ok ∧ Cond.code yJ0_charAt_5068e cJ0_charAt_5068e 2 (some .char) ∈ lw_ok ∧ (yJ0_charAt_5068e.cls ≠ "java/lang/invoke/MethodHandle" ∧ yJ0_charAt_5068e.cls ≠ "java/lang/invoke/VarHandle" ∧ (parseMethodDescriptor yJ0_charAt_5068e.desc).map (fun d => d.parameters.length) = some 1) := ⟨ok_1 18 rfl rfl, ok_3 127 rfl rfl, by decide +kernel⟩
theorem mi_J0_charAt_5068e : Cond.instanceMethod yJ0_charAt_5068e ∈ lw_ok := ok_3 125 rfl rfl
theorem mq_J0_charAt_5068e : Cond.selects yJ0_charAt_5068e.cls yJ0_charAt_5068e yJ0_charAt_5068e ∈ lw_ok := ok_3 126 rfl rfl
theorem mb_J0_isLatin1_aae02 : Cond.initialized yJ0_isLatin1_aae02.cls ∈ lw_ok ∧ Cond.code yJ0_isLatin1_aae02 cJ0_isLatin1_aae02 1 (some .boolean) ∈ lw_ok ∧ (yJ0_isLatin1_aae02.cls ≠ "java/lang/invoke/MethodHandle" ∧ yJ0_isLatin1_aae02.cls ≠ "java/lang/invoke/VarHandle" ∧ (parseMethodDescriptor yJ0_isLatin1_aae02.desc).map (fun d => d.parameters.length) = some 0) := ⟨ok_1 18 rfl rfl, ok_3 131 rfl rfl, by decide +kernel⟩
theorem mi_J0_isLatin1_aae02 : Cond.instanceMethod yJ0_isLatin1_aae02 ∈ lw_ok := ok_3 129 rfl rfl
theorem mq_J0_isLatin1_aae02 : Cond.selects yJ0_isLatin1_aae02.cls yJ0_isLatin1_aae02 yJ0_isLatin1_aae02 ∈ lw_ok := ok_3 130 rfl rfl
theorem mb_J1_charAt_3b067 : Cond.initialized yJ1_charAt_3b067.cls ∈ lw_ok ∧ Cond.code yJ1_charAt_3b067 cJ1_charAt_3b067 2 (some .char) ∈ lw_ok ∧ (yJ1_charAt_3b067.cls ≠ "java/lang/invoke/MethodHandle" ∧ yJ1_charAt_3b067.cls ≠ "java/lang/invoke/VarHandle" ∧ (parseMethodDescriptor yJ1_charAt_3b067.desc).map (fun d => d.parameters.length) = some 2) := ⟨ok_1 19 rfl rfl, ok_3 134 rfl rfl, by decide +kernel⟩
theorem mt_J1_charAt_3b067 : Cond.static yJ1_charAt_3b067 ∈ lw_ok := ok_3 133 rfl rfl
theorem mb_J0_checkIndex_df160 : Cond.initialized yJ0_checkIndex_df160.cls ∈ lw_ok ∧ Cond.code yJ0_checkIndex_df160 cJ0_checkIndex_df160 2 none ∈ lw_ok ∧ (yJ0_checkIndex_df160.cls ≠ "java/lang/invoke/MethodHandle" ∧ yJ0_checkIndex_df160.cls ≠ "java/lang/invoke/VarHandle" ∧ (parseMethodDescriptor yJ0_checkIndex_df160.desc).map (fun d => d.parameters.length) = some 2) := ⟨ok_1 18 rfl rfl, ok_3 137 rfl rfl, by decide +kernel⟩
theorem mt_J0_checkIndex_df160 : Cond.static yJ0_checkIndex_df160 ∈ lw_ok := ok_3 136 rfl rfl
theorem mb_J3_checkIndex_8e157 : Cond.initialized yJ3_checkIndex_8e157.cls ∈ lw_ok ∧ Cond.code yJ3_checkIndex_8e157 cJ3_checkIndex_8e157 3 (some .int) ∈ lw_ok ∧ (yJ3_checkIndex_8e157.cls ≠ "java/lang/invoke/MethodHandle" ∧ yJ3_checkIndex_8e157.cls ≠ "java/lang/invoke/VarHandle" ∧ (parseMethodDescriptor yJ3_checkIndex_8e157.desc).map (fun d => d.parameters.length) = some 3) := ⟨ok_1 20 rfl rfl, ok_3 142 rfl rfl, by decide +kernel⟩
theorem mt_J3_checkIndex_8e157 : Cond.static yJ3_checkIndex_8e157 ∈ lw_ok := ok_3 141 rfl rfl
theorem mb_X5_digit : Cond.initialized yX5_digit.cls ∈ lw_ok ∧ Cond.code yX5_digit cX5_digit 1 (some .boolean) ∈ lw_ok ∧ (yX5_digit.cls ≠ "java/lang/invoke/MethodHandle" ∧ yX5_digit.cls ≠ "java/lang/invoke/VarHandle" ∧ (parseMethodDescriptor yX5_digit.desc).map (fun d => d.parameters.length) = some 1) := ⟨ok_1 9 rfl rfl, ok_3 164 rfl rfl, by decide +kernel⟩
theorem mt_X5_digit : Cond.static yX5_digit ∈ lw_ok := ok_3 163 rfl rfl
theorem mb_X5_opensLine : Cond.initialized yX5_opensLine.cls ∈ lw_ok ∧ Cond.code yX5_opensLine cX5_opensLine 3 (some .boolean) ∈ lw_ok ∧ (yX5_opensLine.cls ≠ "java/lang/invoke/MethodHandle" ∧ yX5_opensLine.cls ≠ "java/lang/invoke/VarHandle" ∧ (parseMethodDescriptor yX5_opensLine.desc).map (fun d => d.parameters.length) = some 1) := ⟨ok_1 9 rfl rfl, ok_3 168 rfl rfl, by decide +kernel⟩
theorem mi_X5_opensLine : Cond.instanceMethod yX5_opensLine ∈ lw_ok := ok_3 167 rfl rfl
theorem mq_X5_opensLine : Cond.selects yX5_opensLine.cls yX5_opensLine yX5_opensLine ∈ lw_ok := ok_p 11 rfl rfl
theorem mb_X5_wrong : Cond.initialized yX5_wrong.cls ∈ lw_ok ∧ Cond.code yX5_wrong cX5_wrong 2 (some .boolean) ∈ lw_ok ∧ (yX5_wrong.cls ≠ "java/lang/invoke/MethodHandle" ∧ yX5_wrong.cls ≠ "java/lang/invoke/VarHandle" ∧ (parseMethodDescriptor yX5_wrong.desc).map (fun d => d.parameters.length) = some 1) := ⟨ok_1 9 rfl rfl, ok_3 172 rfl rfl, by decide +kernel⟩
theorem mi_X5_wrong : Cond.instanceMethod yX5_wrong ∈ lw_ok := ok_3 171 rfl rfl
theorem mq_X5_wrong : Cond.selects yX5_wrong.cls yX5_wrong yX5_wrong ∈ lw_ok := ok_p 12 rfl rfl
theorem mb_X5_put : Cond.initialized yX5_put.cls ∈ lw_ok ∧ Cond.code yX5_put cX5_put 3 none ∈ lw_ok ∧ (yX5_put.cls ≠ "java/lang/invoke/MethodHandle" ∧ yX5_put.cls ≠ "java/lang/invoke/VarHandle" ∧ (parseMethodDescriptor yX5_put.desc).map (fun d => d.parameters.length) = some 2) := ⟨ok_1 9 rfl rfl, ok_3 176 rfl rfl, by decide +kernel⟩
theorem mi_X5_put : Cond.instanceMethod yX5_put ∈ lw_ok := ok_3 175 rfl rfl
theorem mq_X5_put : Cond.selects yX5_put.cls yX5_put yX5_put ∈ lw_ok := ok_p 13 rfl rfl
theorem mb_X5_lawLine : Cond.initialized yX5_lawLine.cls ∈ lw_ok ∧ Cond.code yX5_lawLine cX5_lawLine 1 (some .boolean) ∈ lw_ok ∧ (yX5_lawLine.cls ≠ "java/lang/invoke/MethodHandle" ∧ yX5_lawLine.cls ≠ "java/lang/invoke/VarHandle" ∧ (parseMethodDescriptor yX5_lawLine.desc).map (fun d => d.parameters.length) = some 0) := ⟨ok_1 9 rfl rfl, ok_3 180 rfl rfl, by decide +kernel⟩
theorem mi_X5_lawLine : Cond.instanceMethod yX5_lawLine ∈ lw_ok := ok_3 179 rfl rfl
theorem mq_X5_lawLine : Cond.selects yX5_lawLine.cls yX5_lawLine yX5_lawLine ∈ lw_ok := ok_p 14 rfl rfl
theorem mb_X5_readSum : Cond.initialized yX5_readSum.cls ∈ lw_ok ∧ Cond.code yX5_readSum cX5_readSum 4 (some .boolean) ∈ lw_ok ∧ (yX5_readSum.cls ≠ "java/lang/invoke/MethodHandle" ∧ yX5_readSum.cls ≠ "java/lang/invoke/VarHandle" ∧ (parseMethodDescriptor yX5_readSum.desc).map (fun d => d.parameters.length) = some 0) := ⟨ok_1 9 rfl rfl, ok_3 184 rfl rfl, by decide +kernel⟩
theorem mi_X5_readSum : Cond.instanceMethod yX5_readSum ∈ lw_ok := ok_3 183 rfl rfl
theorem mq_X5_readSum : Cond.selects yX5_readSum.cls yX5_readSum yX5_readSum ∈ lw_ok := ok_p 15 rfl rfl
theorem mb_X5_emitUnit : Cond.initialized yX5_emitUnit.cls ∈ lw_ok ∧ Cond.code yX5_emitUnit cX5_emitUnit 3 (some .boolean) ∈ lw_ok ∧ (yX5_emitUnit.cls ≠ "java/lang/invoke/MethodHandle" ∧ yX5_emitUnit.cls ≠ "java/lang/invoke/VarHandle" ∧ (parseMethodDescriptor yX5_emitUnit.desc).map (fun d => d.parameters.length) = some 1) := ⟨ok_1 9 rfl rfl, ok_3 188 rfl rfl, by decide +kernel⟩
theorem mi_X5_emitUnit : Cond.instanceMethod yX5_emitUnit ∈ lw_ok := ok_3 187 rfl rfl
theorem mq_X5_emitUnit : Cond.selects yX5_emitUnit.cls yX5_emitUnit yX5_emitUnit ∈ lw_ok := ok_p 16 rfl rfl
theorem mb_X5_emit : Cond.initialized yX5_emit.cls ∈ lw_ok ∧ Cond.code yX5_emit cX5_emit 3 none ∈ lw_ok ∧ (yX5_emit.cls ≠ "java/lang/invoke/MethodHandle" ∧ yX5_emit.cls ≠ "java/lang/invoke/VarHandle" ∧ (parseMethodDescriptor yX5_emit.desc).map (fun d => d.parameters.length) = some 2) := ⟨ok_1 9 rfl rfl, ok_3 192 rfl rfl, by decide +kernel⟩
theorem mi_X5_emit : Cond.instanceMethod yX5_emit ∈ lw_ok := ok_3 191 rfl rfl
theorem mq_X5_emit : Cond.selects yX5_emit.cls yX5_emit yX5_emit ∈ lw_ok := ok_p 17 rfl rfl
theorem mb_X5_readChoice : Cond.initialized yX5_readChoice.cls ∈ lw_ok ∧ Cond.code yX5_readChoice cX5_readChoice 5 (some .boolean) ∈ lw_ok ∧ (yX5_readChoice.cls ≠ "java/lang/invoke/MethodHandle" ∧ yX5_readChoice.cls ≠ "java/lang/invoke/VarHandle" ∧ (parseMethodDescriptor yX5_readChoice.desc).map (fun d => d.parameters.length) = some 1) := ⟨ok_1 9 rfl rfl, ok_3 196 rfl rfl, by decide +kernel⟩
theorem mi_X5_readChoice : Cond.instanceMethod yX5_readChoice ∈ lw_ok := ok_3 195 rfl rfl
theorem mq_X5_readChoice : Cond.selects yX5_readChoice.cls yX5_readChoice yX5_readChoice ∈ lw_ok := ok_p 18 rfl rfl
theorem mb_X5_readTest : Cond.initialized yX5_readTest.cls ∈ lw_ok ∧ Cond.code yX5_readTest cX5_readTest 4 (some .boolean) ∈ lw_ok ∧ (yX5_readTest.cls ≠ "java/lang/invoke/MethodHandle" ∧ yX5_readTest.cls ≠ "java/lang/invoke/VarHandle" ∧ (parseMethodDescriptor yX5_readTest.desc).map (fun d => d.parameters.length) = some 1) := ⟨ok_1 9 rfl rfl, ok_3 200 rfl rfl, by decide +kernel⟩
theorem mi_X5_readTest : Cond.instanceMethod yX5_readTest ∈ lw_ok := ok_3 199 rfl rfl
theorem mq_X5_readTest : Cond.selects yX5_readTest.cls yX5_readTest yX5_readTest ∈ lw_ok := ok_p 19 rfl rfl
theorem mb_X5_sign : Cond.initialized yX5_sign.cls ∈ lw_ok ∧ Cond.code yX5_sign cX5_sign 2 (some .boolean) ∈ lw_ok ∧ (yX5_sign.cls ≠ "java/lang/invoke/MethodHandle" ∧ yX5_sign.cls ≠ "java/lang/invoke/VarHandle" ∧ (parseMethodDescriptor yX5_sign.desc).map (fun d => d.parameters.length) = some 1) := ⟨ok_1 9 rfl rfl, ok_3 204 rfl rfl, by decide +kernel⟩
theorem mi_X5_sign : Cond.instanceMethod yX5_sign ∈ lw_ok := ok_3 203 rfl rfl
theorem mq_X5_sign : Cond.selects yX5_sign.cls yX5_sign yX5_sign ∈ lw_ok := ok_p 20 rfl rfl
theorem mb_X5_plainLine : Cond.initialized yX5_plainLine.cls ∈ lw_ok ∧ Cond.code yX5_plainLine cX5_plainLine 3 (some .boolean) ∈ lw_ok ∧ (yX5_plainLine.cls ≠ "java/lang/invoke/MethodHandle" ∧ yX5_plainLine.cls ≠ "java/lang/invoke/VarHandle" ∧ (parseMethodDescriptor yX5_plainLine.desc).map (fun d => d.parameters.length) = some 1) := ⟨ok_1 9 rfl rfl, ok_3 208 rfl rfl, by decide +kernel⟩
theorem mi_X5_plainLine : Cond.instanceMethod yX5_plainLine ∈ lw_ok := ok_3 207 rfl rfl
theorem mq_X5_plainLine : Cond.selects yX5_plainLine.cls yX5_plainLine yX5_plainLine ∈ lw_ok := ok_p 21 rfl rfl
theorem mb_X5_bounded : Cond.initialized yX5_bounded.cls ∈ lw_ok ∧ Cond.code yX5_bounded cX5_bounded 3 (some .boolean) ∈ lw_ok ∧ (yX5_bounded.cls ≠ "java/lang/invoke/MethodHandle" ∧ yX5_bounded.cls ≠ "java/lang/invoke/VarHandle" ∧ (parseMethodDescriptor yX5_bounded.desc).map (fun d => d.parameters.length) = some 2) := ⟨ok_1 9 rfl rfl, ok_3 212 rfl rfl, by decide +kernel⟩
theorem mi_X5_bounded : Cond.instanceMethod yX5_bounded ∈ lw_ok := ok_3 211 rfl rfl
theorem mq_X5_bounded : Cond.selects yX5_bounded.cls yX5_bounded yX5_bounded ∈ lw_ok := ok_p 22 rfl rfl
theorem mb_X5_skyLine : Cond.initialized yX5_skyLine.cls ∈ lw_ok ∧ Cond.code yX5_skyLine cX5_skyLine 1 (some .boolean) ∈ lw_ok ∧ (yX5_skyLine.cls ≠ "java/lang/invoke/MethodHandle" ∧ yX5_skyLine.cls ≠ "java/lang/invoke/VarHandle" ∧ (parseMethodDescriptor yX5_skyLine.desc).map (fun d => d.parameters.length) = some 0) := ⟨ok_1 9 rfl rfl, ok_3 216 rfl rfl, by decide +kernel⟩
theorem mi_X5_skyLine : Cond.instanceMethod yX5_skyLine ∈ lw_ok := ok_3 215 rfl rfl
theorem mq_X5_skyLine : Cond.selects yX5_skyLine.cls yX5_skyLine yX5_skyLine ∈ lw_ok := ok_p 23 rfl rfl
theorem mb_X5_mindWord : Cond.initialized yX5_mindWord.cls ∈ lw_ok ∧ Cond.code yX5_mindWord cX5_mindWord 2 (some .boolean) ∈ lw_ok ∧ (yX5_mindWord.cls ≠ "java/lang/invoke/MethodHandle" ∧ yX5_mindWord.cls ≠ "java/lang/invoke/VarHandle" ∧ (parseMethodDescriptor yX5_mindWord.desc).map (fun d => d.parameters.length) = some 0) := ⟨ok_1 9 rfl rfl, ok_3 220 rfl rfl, by decide +kernel⟩
theorem mi_X5_mindWord : Cond.instanceMethod yX5_mindWord ∈ lw_ok := ok_3 219 rfl rfl
theorem mq_X5_mindWord : Cond.selects yX5_mindWord.cls yX5_mindWord yX5_mindWord ∈ lw_ok := ok_p 24 rfl rfl
theorem mb_J7_copyOf_59c91 : Cond.initialized yJ7_copyOf_59c91.cls ∈ lw_ok ∧ Cond.code yJ7_copyOf_59c91 cJ7_copyOf_59c91 3 (some (.array .int)) ∈ lw_ok ∧ (yJ7_copyOf_59c91.cls ≠ "java/lang/invoke/MethodHandle" ∧ yJ7_copyOf_59c91.cls ≠ "java/lang/invoke/VarHandle" ∧ (parseMethodDescriptor yJ7_copyOf_59c91.desc).map (fun d => d.parameters.length) = some 2) := ⟨ok_1 17 rfl rfl, ok_3 224 rfl rfl, by decide +kernel⟩
theorem mt_J7_copyOf_59c91 : Cond.static yJ7_copyOf_59c91 ∈ lw_ok := ok_3 223 rfl rfl
theorem mb_X11_fault : Cond.initialized yX11_fault.cls ∈ lw_ok ∧ Cond.code yX11_fault cX11_fault 2 (some .int) ∈ lw_ok ∧ (yX11_fault.cls ≠ "java/lang/invoke/MethodHandle" ∧ yX11_fault.cls ≠ "java/lang/invoke/VarHandle" ∧ (parseMethodDescriptor yX11_fault.desc).map (fun d => d.parameters.length) = some 1) := ⟨ok_1 1 rfl rfl, ok_3 239 rfl rfl, by decide +kernel⟩
theorem mi_X11_fault : Cond.instanceMethod yX11_fault ∈ lw_ok := ok_3 237 rfl rfl
theorem mq_X11_fault : Cond.selects yX11_fault.cls yX11_fault yX11_fault ∈ lw_ok := ok_3 238 rfl rfl
theorem mb_X11_of : Cond.initialized yX11_of.cls ∈ lw_ok ∧ Cond.code yX11_of cX11_of 3 (some .int) ∈ lw_ok ∧ (yX11_of.cls ≠ "java/lang/invoke/MethodHandle" ∧ yX11_of.cls ≠ "java/lang/invoke/VarHandle" ∧ (parseMethodDescriptor yX11_of.desc).map (fun d => d.parameters.length) = some 2) := ⟨ok_1 1 rfl rfl, ok_4 3 rfl rfl, by decide +kernel⟩
theorem mi_X11_of : Cond.instanceMethod yX11_of ∈ lw_ok := ok_4 1 rfl rfl
theorem mq_X11_of : Cond.selects yX11_of.cls yX11_of yX11_of ∈ lw_ok := ok_4 2 rfl rfl
theorem mb_X10_twinsOf : Cond.initialized yX10_twinsOf.cls ∈ lw_ok ∧ Cond.code yX10_twinsOf cX10_twinsOf 7 (some .int) ∈ lw_ok ∧ (yX10_twinsOf.cls ≠ "java/lang/invoke/MethodHandle" ∧ yX10_twinsOf.cls ≠ "java/lang/invoke/VarHandle" ∧ (parseMethodDescriptor yX10_twinsOf.desc).map (fun d => d.parameters.length) = some 1) := ⟨ok_1 2 rfl rfl, ok_4 8 rfl rfl, by decide +kernel⟩
theorem mi_X10_twinsOf : Cond.instanceMethod yX10_twinsOf ∈ lw_ok := ok_4 6 rfl rfl
theorem mq_X10_twinsOf : Cond.selects yX10_twinsOf.cls yX10_twinsOf yX10_twinsOf ∈ lw_ok := ok_4 7 rfl rfl
theorem mb_X11_cell : Cond.initialized yX11_cell.cls ∈ lw_ok ∧ Cond.code yX11_cell cX11_cell 6 (some .int) ∈ lw_ok ∧ (yX11_cell.cls ≠ "java/lang/invoke/MethodHandle" ∧ yX11_cell.cls ≠ "java/lang/invoke/VarHandle" ∧ (parseMethodDescriptor yX11_cell.desc).map (fun d => d.parameters.length) = some 3) := ⟨ok_1 1 rfl rfl, ok_4 13 rfl rfl, by decide +kernel⟩
theorem mi_X11_cell : Cond.instanceMethod yX11_cell ∈ lw_ok := ok_4 11 rfl rfl
theorem mq_X11_cell : Cond.selects yX11_cell.cls yX11_cell yX11_cell ∈ lw_ok := ok_4 12 rfl rfl
theorem mb_X11_book : Cond.initialized yX11_book.cls ∈ lw_ok ∧ Cond.code yX11_book cX11_book 3 (some .int) ∈ lw_ok ∧ (yX11_book.cls ≠ "java/lang/invoke/MethodHandle" ∧ yX11_book.cls ≠ "java/lang/invoke/VarHandle" ∧ (parseMethodDescriptor yX11_book.desc).map (fun d => d.parameters.length) = some 2) := ⟨ok_1 1 rfl rfl, ok_4 22 rfl rfl, by decide +kernel⟩
theorem mi_X11_book : Cond.instanceMethod yX11_book ∈ lw_ok := ok_4 20 rfl rfl
theorem mq_X11_book : Cond.selects yX11_book.cls yX11_book yX11_book ∈ lw_ok := ok_4 21 rfl rfl
theorem mb_X3_number : Cond.initialized yX3_number.cls ∈ lw_ok ∧ Cond.code yX3_number cX3_number 4 (some .int) ∈ lw_ok ∧ (yX3_number.cls ≠ "java/lang/invoke/MethodHandle" ∧ yX3_number.cls ≠ "java/lang/invoke/VarHandle" ∧ (parseMethodDescriptor yX3_number.desc).map (fun d => d.parameters.length) = some 2) := ⟨ok_1 4 rfl rfl, ok_4 26 rfl rfl, by decide +kernel⟩
theorem mi_X3_number : Cond.instanceMethod yX3_number ∈ lw_ok := ok_4 24 rfl rfl
theorem mq_X3_number : Cond.selects yX3_number.cls yX3_number yX3_number ∈ lw_ok := ok_4 25 rfl rfl
theorem mb_X11_goes : Cond.initialized yX11_goes.cls ∈ lw_ok ∧ Cond.code yX11_goes cX11_goes 4 (some .int) ∈ lw_ok ∧ (yX11_goes.cls ≠ "java/lang/invoke/MethodHandle" ∧ yX11_goes.cls ≠ "java/lang/invoke/VarHandle" ∧ (parseMethodDescriptor yX11_goes.desc).map (fun d => d.parameters.length) = some 2) := ⟨ok_1 1 rfl rfl, ok_4 30 rfl rfl, by decide +kernel⟩
theorem mi_X11_goes : Cond.instanceMethod yX11_goes ∈ lw_ok := ok_4 28 rfl rfl
theorem mq_X11_goes : Cond.selects yX11_goes.cls yX11_goes yX11_goes ∈ lw_ok := ok_4 29 rfl rfl
theorem mb_X0_countMarks : Cond.initialized yX0_countMarks.cls ∈ lw_ok ∧ Cond.code yX0_countMarks cX0_countMarks 3 (some .int) ∈ lw_ok ∧ (yX0_countMarks.cls ≠ "java/lang/invoke/MethodHandle" ∧ yX0_countMarks.cls ≠ "java/lang/invoke/VarHandle" ∧ (parseMethodDescriptor yX0_countMarks.desc).map (fun d => d.parameters.length) = some 0) := ⟨ok_1 3 rfl rfl, ok_4 36 rfl rfl, by decide +kernel⟩
theorem mi_X0_countMarks : Cond.instanceMethod yX0_countMarks ∈ lw_ok := ok_4 34 rfl rfl
theorem mq_X0_countMarks : Cond.selects yX0_countMarks.cls yX0_countMarks yX0_countMarks ∈ lw_ok := ok_4 35 rfl rfl
theorem mb_X0_cameOfAll : Cond.initialized yX0_cameOfAll.cls ∈ lw_ok ∧ Cond.code yX0_cameOfAll cX0_cameOfAll 3 (some .int) ∈ lw_ok ∧ (yX0_cameOfAll.cls ≠ "java/lang/invoke/MethodHandle" ∧ yX0_cameOfAll.cls ≠ "java/lang/invoke/VarHandle" ∧ (parseMethodDescriptor yX0_cameOfAll.desc).map (fun d => d.parameters.length) = some 0) := ⟨ok_1 3 rfl rfl, ok_4 41 rfl rfl, by decide +kernel⟩
theorem mi_X0_cameOfAll : Cond.instanceMethod yX0_cameOfAll ∈ lw_ok := ok_4 39 rfl rfl
theorem mq_X0_cameOfAll : Cond.selects yX0_cameOfAll.cls yX0_cameOfAll yX0_cameOfAll ∈ lw_ok := ok_4 40 rfl rfl
theorem mb_X11_wax : Cond.initialized yX11_wax.cls ∈ lw_ok ∧ Cond.code yX11_wax cX11_wax 2 (some .int) ∈ lw_ok ∧ (yX11_wax.cls ≠ "java/lang/invoke/MethodHandle" ∧ yX11_wax.cls ≠ "java/lang/invoke/VarHandle" ∧ (parseMethodDescriptor yX11_wax.desc).map (fun d => d.parameters.length) = some 1) := ⟨ok_1 1 rfl rfl, ok_4 45 rfl rfl, by decide +kernel⟩
theorem mi_X11_wax : Cond.instanceMethod yX11_wax ∈ lw_ok := ok_4 43 rfl rfl
theorem mq_X11_wax : Cond.selects yX11_wax.cls yX11_wax yX11_wax ∈ lw_ok := ok_4 44 rfl rfl
theorem mb_X1_turned : Cond.initialized yX1_turned.cls ∈ lw_ok ∧ Cond.code yX1_turned cX1_turned 5 (some .int) ∈ lw_ok ∧ (yX1_turned.cls ≠ "java/lang/invoke/MethodHandle" ∧ yX1_turned.cls ≠ "java/lang/invoke/VarHandle" ∧ (parseMethodDescriptor yX1_turned.desc).map (fun d => d.parameters.length) = some 0) := ⟨ok_1 13 rfl rfl, ok_4 49 rfl rfl, by decide +kernel⟩
theorem mi_X1_turned : Cond.instanceMethod yX1_turned ∈ lw_ok := ok_4 47 rfl rfl
theorem mq_X1_turned : Cond.selects yX1_turned.cls yX1_turned yX1_turned ∈ lw_ok := ok_4 48 rfl rfl
theorem mb_X6_blobs : Cond.initialized yX6_blobs.cls ∈ lw_ok ∧ Cond.code yX6_blobs cX6_blobs 2 (some .int) ∈ lw_ok ∧ (yX6_blobs.cls ≠ "java/lang/invoke/MethodHandle" ∧ yX6_blobs.cls ≠ "java/lang/invoke/VarHandle" ∧ (parseMethodDescriptor yX6_blobs.desc).map (fun d => d.parameters.length) = some 1) := ⟨ok_1 10 rfl rfl, ok_4 54 rfl rfl, by decide +kernel⟩
theorem mi_X6_blobs : Cond.instanceMethod yX6_blobs ∈ lw_ok := ok_4 52 rfl rfl
theorem mq_X6_blobs : Cond.selects yX6_blobs.cls yX6_blobs yX6_blobs ∈ lw_ok := ok_4 53 rfl rfl
theorem mb_X6_pieces : Cond.initialized yX6_pieces.cls ∈ lw_ok ∧ Cond.code yX6_pieces cX6_pieces 8 (some .int) ∈ lw_ok ∧ (yX6_pieces.cls ≠ "java/lang/invoke/MethodHandle" ∧ yX6_pieces.cls ≠ "java/lang/invoke/VarHandle" ∧ (parseMethodDescriptor yX6_pieces.desc).map (fun d => d.parameters.length) = some 3) := ⟨ok_1 10 rfl rfl, ok_4 58 rfl rfl, by decide +kernel⟩
theorem mi_X6_pieces : Cond.instanceMethod yX6_pieces ∈ lw_ok := ok_4 57 rfl rfl
theorem mq_X6_pieces : Cond.selects yX6_pieces.cls yX6_pieces yX6_pieces ∈ lw_ok := ok_p 25 rfl rfl
theorem mb_X6_spread : Cond.initialized yX6_spread.cls ∈ lw_ok ∧ Cond.code yX6_spread cX6_spread 5 none ∈ lw_ok ∧ (yX6_spread.cls ≠ "java/lang/invoke/MethodHandle" ∧ yX6_spread.cls ≠ "java/lang/invoke/VarHandle" ∧ (parseMethodDescriptor yX6_spread.desc).map (fun d => d.parameters.length) = some 1) := ⟨ok_1 10 rfl rfl, ok_4 63 rfl rfl, by decide +kernel⟩
theorem mi_X6_spread : Cond.instanceMethod yX6_spread ∈ lw_ok := ok_4 62 rfl rfl
theorem mq_X6_spread : Cond.selects yX6_spread.cls yX6_spread yX6_spread ∈ lw_ok := ok_p 26 rfl rfl
theorem mb_X6_reach : Cond.initialized yX6_reach.cls ∈ lw_ok ∧ Cond.code yX6_reach cX6_reach 4 none ∈ lw_ok ∧ (yX6_reach.cls ≠ "java/lang/invoke/MethodHandle" ∧ yX6_reach.cls ≠ "java/lang/invoke/VarHandle" ∧ (parseMethodDescriptor yX6_reach.desc).map (fun d => d.parameters.length) = some 2) := ⟨ok_1 10 rfl rfl, ok_4 67 rfl rfl, by decide +kernel⟩
theorem mi_X6_reach : Cond.instanceMethod yX6_reach ∈ lw_ok := ok_4 66 rfl rfl
theorem mq_X6_reach : Cond.selects yX6_reach.cls yX6_reach yX6_reach ∈ lw_ok := ok_p 27 rfl rfl
theorem mb_X6_greatestBlob : Cond.initialized yX6_greatestBlob.cls ∈ lw_ok ∧ Cond.code yX6_greatestBlob cX6_greatestBlob 2 (some .int) ∈ lw_ok ∧ (yX6_greatestBlob.cls ≠ "java/lang/invoke/MethodHandle" ∧ yX6_greatestBlob.cls ≠ "java/lang/invoke/VarHandle" ∧ (parseMethodDescriptor yX6_greatestBlob.desc).map (fun d => d.parameters.length) = some 1) := ⟨ok_1 10 rfl rfl, ok_4 73 rfl rfl, by decide +kernel⟩
theorem mi_X6_greatestBlob : Cond.instanceMethod yX6_greatestBlob ∈ lw_ok := ok_4 71 rfl rfl
theorem mq_X6_greatestBlob : Cond.selects yX6_greatestBlob.cls yX6_greatestBlob yX6_greatestBlob ∈ lw_ok := ok_4 72 rfl rfl
theorem mb_X6_holes : Cond.initialized yX6_holes.cls ∈ lw_ok ∧ Cond.code yX6_holes cX6_holes 2 (some .int) ∈ lw_ok ∧ (yX6_holes.cls ≠ "java/lang/invoke/MethodHandle" ∧ yX6_holes.cls ≠ "java/lang/invoke/VarHandle" ∧ (parseMethodDescriptor yX6_holes.desc).map (fun d => d.parameters.length) = some 1) := ⟨ok_1 10 rfl rfl, ok_4 77 rfl rfl, by decide +kernel⟩
theorem mi_X6_holes : Cond.instanceMethod yX6_holes ∈ lw_ok := ok_4 75 rfl rfl
theorem mq_X6_holes : Cond.selects yX6_holes.cls yX6_holes yX6_holes ∈ lw_ok := ok_4 76 rfl rfl
theorem mb_X6_unlike : Cond.initialized yX6_unlike.cls ∈ lw_ok ∧ Cond.code yX6_unlike cX6_unlike 7 (some .int) ∈ lw_ok ∧ (yX6_unlike.cls ≠ "java/lang/invoke/MethodHandle" ∧ yX6_unlike.cls ≠ "java/lang/invoke/VarHandle" ∧ (parseMethodDescriptor yX6_unlike.desc).map (fun d => d.parameters.length) = some 1) := ⟨ok_1 10 rfl rfl, ok_4 81 rfl rfl, by decide +kernel⟩
theorem mi_X6_unlike : Cond.instanceMethod yX6_unlike ∈ lw_ok := ok_4 79 rfl rfl
theorem mq_X6_unlike : Cond.selects yX6_unlike.cls yX6_unlike yX6_unlike ∈ lw_ok := ok_4 80 rfl rfl
theorem mb_X6_bareSquare : Cond.initialized yX6_bareSquare.cls ∈ lw_ok ∧ Cond.code yX6_bareSquare cX6_bareSquare 6 (some .int) ∈ lw_ok ∧ (yX6_bareSquare.cls ≠ "java/lang/invoke/MethodHandle" ∧ yX6_bareSquare.cls ≠ "java/lang/invoke/VarHandle" ∧ (parseMethodDescriptor yX6_bareSquare.desc).map (fun d => d.parameters.length) = some 2) := ⟨ok_1 10 rfl rfl, ok_4 86 rfl rfl, by decide +kernel⟩
theorem mi_X6_bareSquare : Cond.instanceMethod yX6_bareSquare ∈ lw_ok := ok_4 84 rfl rfl
theorem mq_X6_bareSquare : Cond.selects yX6_bareSquare.cls yX6_bareSquare yX6_bareSquare ∈ lw_ok := ok_4 85 rfl rfl
theorem mb_X6_squareBehind : Cond.initialized yX6_squareBehind.cls ∈ lw_ok ∧ Cond.code yX6_squareBehind cX6_squareBehind 2 (some .int) ∈ lw_ok ∧ (yX6_squareBehind.cls ≠ "java/lang/invoke/MethodHandle" ∧ yX6_squareBehind.cls ≠ "java/lang/invoke/VarHandle" ∧ (parseMethodDescriptor yX6_squareBehind.desc).map (fun d => d.parameters.length) = some 1) := ⟨ok_1 10 rfl rfl, ok_4 90 rfl rfl, by decide +kernel⟩
theorem mi_X6_squareBehind : Cond.instanceMethod yX6_squareBehind ∈ lw_ok := ok_4 89 rfl rfl
theorem mq_X6_squareBehind : Cond.selects yX6_squareBehind.cls yX6_squareBehind yX6_squareBehind ∈ lw_ok := ok_p 28 rfl rfl
theorem mb_X11_whose : Cond.initialized yX11_whose.cls ∈ lw_ok ∧ Cond.code yX11_whose cX11_whose 3 (some .int) ∈ lw_ok ∧ (yX11_whose.cls ≠ "java/lang/invoke/MethodHandle" ∧ yX11_whose.cls ≠ "java/lang/invoke/VarHandle" ∧ (parseMethodDescriptor yX11_whose.desc).map (fun d => d.parameters.length) = some 2) := ⟨ok_1 1 rfl rfl, ok_4 95 rfl rfl, by decide +kernel⟩
theorem mi_X11_whose : Cond.instanceMethod yX11_whose ∈ lw_ok := ok_4 93 rfl rfl
theorem mq_X11_whose : Cond.selects yX11_whose.cls yX11_whose yX11_whose ∈ lw_ok := ok_4 94 rfl rfl
theorem mb_X0_nearest : Cond.initialized yX0_nearest.cls ∈ lw_ok ∧ Cond.code yX0_nearest cX0_nearest 6 (some .int) ∈ lw_ok ∧ (yX0_nearest.cls ≠ "java/lang/invoke/MethodHandle" ∧ yX0_nearest.cls ≠ "java/lang/invoke/VarHandle" ∧ (parseMethodDescriptor yX0_nearest.desc).map (fun d => d.parameters.length) = some 1) := ⟨ok_1 3 rfl rfl, ok_4 99 rfl rfl, by decide +kernel⟩
theorem mi_X0_nearest : Cond.instanceMethod yX0_nearest ∈ lw_ok := ok_4 97 rfl rfl
theorem mq_X0_nearest : Cond.selects yX0_nearest.cls yX0_nearest yX0_nearest ∈ lw_ok := ok_4 98 rfl rfl
theorem mb_J6_bitCount_0f7a4 : Cond.initialized yJ6_bitCount_0f7a4.cls ∈ lw_ok ∧ Cond.code yJ6_bitCount_0f7a4 cJ6_bitCount_0f7a4 1 (some .int) ∈ lw_ok ∧ (yJ6_bitCount_0f7a4.cls ≠ "java/lang/invoke/MethodHandle" ∧ yJ6_bitCount_0f7a4.cls ≠ "java/lang/invoke/VarHandle" ∧ (parseMethodDescriptor yJ6_bitCount_0f7a4.desc).map (fun d => d.parameters.length) = some 1) := ⟨ok_1 16 rfl rfl, ok_4 102 rfl rfl, by decide +kernel⟩
theorem mt_J6_bitCount_0f7a4 : Cond.static yJ6_bitCount_0f7a4 ∈ lw_ok := ok_4 101 rfl rfl
theorem mb_X0_alike : Cond.initialized yX0_alike.cls ∈ lw_ok ∧ Cond.code yX0_alike cX0_alike 5 (some .int) ∈ lw_ok ∧ (yX0_alike.cls ≠ "java/lang/invoke/MethodHandle" ∧ yX0_alike.cls ≠ "java/lang/invoke/VarHandle" ∧ (parseMethodDescriptor yX0_alike.desc).map (fun d => d.parameters.length) = some 2) := ⟨ok_1 3 rfl rfl, ok_4 109 rfl rfl, by decide +kernel⟩
theorem mi_X0_alike : Cond.instanceMethod yX0_alike ∈ lw_ok := ok_4 107 rfl rfl
theorem mq_X0_alike : Cond.selects yX0_alike.cls yX0_alike yX0_alike ∈ lw_ok := ok_4 108 rfl rfl
theorem mb_X11_could : Cond.initialized yX11_could.cls ∈ lw_ok ∧ Cond.code yX11_could cX11_could 2 (some .int) ∈ lw_ok ∧ (yX11_could.cls ≠ "java/lang/invoke/MethodHandle" ∧ yX11_could.cls ≠ "java/lang/invoke/VarHandle" ∧ (parseMethodDescriptor yX11_could.desc).map (fun d => d.parameters.length) = some 1) := ⟨ok_1 1 rfl rfl, ok_4 113 rfl rfl, by decide +kernel⟩
theorem mi_X11_could : Cond.instanceMethod yX11_could ∈ lw_ok := ok_4 111 rfl rfl
theorem mq_X11_could : Cond.selects yX11_could.cls yX11_could yX11_could ∈ lw_ok := ok_4 112 rfl rfl
theorem mb_X10_takenFor : Cond.initialized yX10_takenFor.cls ∈ lw_ok ∧ Cond.code yX10_takenFor cX10_takenFor 6 (some .int) ∈ lw_ok ∧ (yX10_takenFor.cls ≠ "java/lang/invoke/MethodHandle" ∧ yX10_takenFor.cls ≠ "java/lang/invoke/VarHandle" ∧ (parseMethodDescriptor yX10_takenFor.desc).map (fun d => d.parameters.length) = some 1) := ⟨ok_1 2 rfl rfl, ok_4 117 rfl rfl, by decide +kernel⟩
theorem mi_X10_takenFor : Cond.instanceMethod yX10_takenFor ∈ lw_ok := ok_4 115 rfl rfl
theorem mq_X10_takenFor : Cond.selects yX10_takenFor.cls yX10_takenFor yX10_takenFor ∈ lw_ok := ok_4 116 rfl rfl
theorem mb_X11_party : Cond.initialized yX11_party.cls ∈ lw_ok ∧ Cond.code yX11_party cX11_party 2 (some .int) ∈ lw_ok ∧ (yX11_party.cls ≠ "java/lang/invoke/MethodHandle" ∧ yX11_party.cls ≠ "java/lang/invoke/VarHandle" ∧ (parseMethodDescriptor yX11_party.desc).map (fun d => d.parameters.length) = some 1) := ⟨ok_1 1 rfl rfl, ok_4 122 rfl rfl, by decide +kernel⟩
theorem mi_X11_party : Cond.instanceMethod yX11_party ∈ lw_ok := ok_4 120 rfl rfl
theorem mq_X11_party : Cond.selects yX11_party.cls yX11_party yX11_party ∈ lw_ok := ok_4 121 rfl rfl
theorem mb_X10_tell : Cond.initialized yX10_tell.cls ∈ lw_ok ∧ Cond.code yX10_tell cX10_tell 5 (some .int) ∈ lw_ok ∧ (yX10_tell.cls ≠ "java/lang/invoke/MethodHandle" ∧ yX10_tell.cls ≠ "java/lang/invoke/VarHandle" ∧ (parseMethodDescriptor yX10_tell.desc).map (fun d => d.parameters.length) = some 4) := ⟨ok_1 2 rfl rfl, ok_4 126 rfl rfl, by decide +kernel⟩
theorem mi_X10_tell : Cond.instanceMethod yX10_tell ∈ lw_ok := ok_4 124 rfl rfl
theorem mq_X10_tell : Cond.selects yX10_tell.cls yX10_tell yX10_tell ∈ lw_ok := ok_4 125 rfl rfl
theorem mb_X9_add : Cond.initialized yX9_add.cls ∈ lw_ok ∧ Cond.code yX9_add cX9_add 2 (some .int) ∈ lw_ok ∧ (yX9_add.cls ≠ "java/lang/invoke/MethodHandle" ∧ yX9_add.cls ≠ "java/lang/invoke/VarHandle" ∧ (parseMethodDescriptor yX9_add.desc).map (fun d => d.parameters.length) = some 1) := ⟨ok_1 6 rfl rfl, ok_4 130 rfl rfl, by decide +kernel⟩
theorem mi_X9_add : Cond.instanceMethod yX9_add ∈ lw_ok := ok_4 128 rfl rfl
theorem mq_X9_add : Cond.selects yX9_add.cls yX9_add yX9_add ∈ lw_ok := ok_4 129 rfl rfl
theorem mb_X11_seats : Cond.initialized yX11_seats.cls ∈ lw_ok ∧ Cond.code yX11_seats cX11_seats 5 (some .int) ∈ lw_ok ∧ (yX11_seats.cls ≠ "java/lang/invoke/MethodHandle" ∧ yX11_seats.cls ≠ "java/lang/invoke/VarHandle" ∧ (parseMethodDescriptor yX11_seats.desc).map (fun d => d.parameters.length) = some 3) := ⟨ok_1 1 rfl rfl, ok_4 134 rfl rfl, by decide +kernel⟩
theorem mi_X11_seats : Cond.instanceMethod yX11_seats ∈ lw_ok := ok_4 132 rfl rfl
theorem mq_X11_seats : Cond.selects yX11_seats.cls yX11_seats yX11_seats ∈ lw_ok := ok_4 133 rfl rfl
theorem mb_X4_seatsOf : Cond.initialized yX4_seatsOf.cls ∈ lw_ok ∧ Cond.code yX4_seatsOf cX4_seatsOf 11 (some .int) ∈ lw_ok ∧ (yX4_seatsOf.cls ≠ "java/lang/invoke/MethodHandle" ∧ yX4_seatsOf.cls ≠ "java/lang/invoke/VarHandle" ∧ (parseMethodDescriptor yX4_seatsOf.desc).map (fun d => d.parameters.length) = some 4) := ⟨ok_1 11 rfl rfl, ok_4 138 rfl rfl, by decide +kernel⟩
theorem mi_X4_seatsOf : Cond.instanceMethod yX4_seatsOf ∈ lw_ok := ok_4 136 rfl rfl
theorem mq_X4_seatsOf : Cond.selects yX4_seatsOf.cls yX4_seatsOf yX4_seatsOf ∈ lw_ok := ok_4 137 rfl rfl
theorem mb_X9_item : Cond.initialized yX9_item.cls ∈ lw_ok ∧ Cond.code yX9_item cX9_item 2 (some .int) ∈ lw_ok ∧ (yX9_item.cls ≠ "java/lang/invoke/MethodHandle" ∧ yX9_item.cls ≠ "java/lang/invoke/VarHandle" ∧ (parseMethodDescriptor yX9_item.desc).map (fun d => d.parameters.length) = some 1) := ⟨ok_1 6 rfl rfl, ok_4 143 rfl rfl, by decide +kernel⟩
theorem mi_X9_item : Cond.instanceMethod yX9_item ∈ lw_ok := ok_4 141 rfl rfl
theorem mq_X9_item : Cond.selects yX9_item.cls yX9_item yX9_item ∈ lw_ok := ok_4 142 rfl rfl
theorem mb_X11_house : Cond.initialized yX11_house.cls ∈ lw_ok ∧ Cond.code yX11_house cX11_house 2 (some .int) ∈ lw_ok ∧ (yX11_house.cls ≠ "java/lang/invoke/MethodHandle" ∧ yX11_house.cls ≠ "java/lang/invoke/VarHandle" ∧ (parseMethodDescriptor yX11_house.desc).map (fun d => d.parameters.length) = some 1) := ⟨ok_1 1 rfl rfl, ok_4 147 rfl rfl, by decide +kernel⟩
theorem mi_X11_house : Cond.instanceMethod yX11_house ∈ lw_ok := ok_4 145 rfl rfl
theorem mq_X11_house : Cond.selects yX11_house.cls yX11_house yX11_house ∈ lw_ok := ok_4 146 rfl rfl
theorem mb_X11_parishes : Cond.initialized yX11_parishes.cls ∈ lw_ok ∧ Cond.code yX11_parishes cX11_parishes 4 (some .int) ∈ lw_ok ∧ (yX11_parishes.cls ≠ "java/lang/invoke/MethodHandle" ∧ yX11_parishes.cls ≠ "java/lang/invoke/VarHandle" ∧ (parseMethodDescriptor yX11_parishes.desc).map (fun d => d.parameters.length) = some 2) := ⟨ok_1 1 rfl rfl, ok_4 151 rfl rfl, by decide +kernel⟩
theorem mi_X11_parishes : Cond.instanceMethod yX11_parishes ∈ lw_ok := ok_4 149 rfl rfl
theorem mq_X11_parishes : Cond.selects yX11_parishes.cls yX11_parishes yX11_parishes ∈ lw_ok := ok_4 150 rfl rfl
theorem mb_X4_parishesFor : Cond.initialized yX4_parishesFor.cls ∈ lw_ok ∧ Cond.code yX4_parishesFor cX4_parishesFor 7 (some .int) ∈ lw_ok ∧ (yX4_parishesFor.cls ≠ "java/lang/invoke/MethodHandle" ∧ yX4_parishesFor.cls ≠ "java/lang/invoke/VarHandle" ∧ (parseMethodDescriptor yX4_parishesFor.desc).map (fun d => d.parameters.length) = some 3) := ⟨ok_1 11 rfl rfl, ok_4 155 rfl rfl, by decide +kernel⟩
theorem mi_X4_parishesFor : Cond.instanceMethod yX4_parishesFor ∈ lw_ok := ok_4 153 rfl rfl
theorem mq_X4_parishesFor : Cond.selects yX4_parishesFor.cls yX4_parishesFor yX4_parishesFor ∈ lw_ok := ok_4 154 rfl rfl
theorem mb_X4_lastParish : Cond.initialized yX4_lastParish.cls ∈ lw_ok ∧ Cond.code yX4_lastParish cX4_lastParish 7 (some .int) ∈ lw_ok ∧ (yX4_lastParish.cls ≠ "java/lang/invoke/MethodHandle" ∧ yX4_lastParish.cls ≠ "java/lang/invoke/VarHandle" ∧ (parseMethodDescriptor yX4_lastParish.desc).map (fun d => d.parameters.length) = some 2) := ⟨ok_1 11 rfl rfl, ok_4 160 rfl rfl, by decide +kernel⟩
theorem mi_X4_lastParish : Cond.instanceMethod yX4_lastParish ∈ lw_ok := ok_4 159 rfl rfl
theorem mq_X4_lastParish : Cond.selects yX4_lastParish.cls yX4_lastParish yX4_lastParish ∈ lw_ok := ok_p 29 rfl rfl
theorem mb_X11_wish : Cond.initialized yX11_wish.cls ∈ lw_ok ∧ Cond.code yX11_wish cX11_wish 2 (some .int) ∈ lw_ok ∧ (yX11_wish.cls ≠ "java/lang/invoke/MethodHandle" ∧ yX11_wish.cls ≠ "java/lang/invoke/VarHandle" ∧ (parseMethodDescriptor yX11_wish.desc).map (fun d => d.parameters.length) = some 1) := ⟨ok_1 1 rfl rfl, ok_4 164 rfl rfl, by decide +kernel⟩
theorem mi_X11_wish : Cond.instanceMethod yX11_wish ∈ lw_ok := ok_4 162 rfl rfl
theorem mq_X11_wish : Cond.selects yX11_wish.cls yX11_wish yX11_wish ∈ lw_ok := ok_4 163 rfl rfl
theorem mb_X11_name : Cond.initialized yX11_name.cls ∈ lw_ok ∧ Cond.code yX11_name cX11_name 2 (some .int) ∈ lw_ok ∧ (yX11_name.cls ≠ "java/lang/invoke/MethodHandle" ∧ yX11_name.cls ≠ "java/lang/invoke/VarHandle" ∧ (parseMethodDescriptor yX11_name.desc).map (fun d => d.parameters.length) = some 1) := ⟨ok_1 1 rfl rfl, ok_4 168 rfl rfl, by decide +kernel⟩
theorem mi_X11_name : Cond.instanceMethod yX11_name ∈ lw_ok := ok_4 166 rfl rfl
theorem mq_X11_name : Cond.selects yX11_name.cls yX11_name yX11_name ∈ lw_ok := ok_4 167 rfl rfl
theorem mb_X11_middle : Cond.initialized yX11_middle.cls ∈ lw_ok ∧ Cond.code yX11_middle cX11_middle 2 (some .int) ∈ lw_ok ∧ (yX11_middle.cls ≠ "java/lang/invoke/MethodHandle" ∧ yX11_middle.cls ≠ "java/lang/invoke/VarHandle" ∧ (parseMethodDescriptor yX11_middle.desc).map (fun d => d.parameters.length) = some 1) := ⟨ok_1 1 rfl rfl, ok_4 172 rfl rfl, by decide +kernel⟩
theorem mi_X11_middle : Cond.instanceMethod yX11_middle ∈ lw_ok := ok_4 170 rfl rfl
theorem mq_X11_middle : Cond.selects yX11_middle.cls yX11_middle yX11_middle ∈ lw_ok := ok_4 171 rfl rfl
theorem mb_X4_middleOf : Cond.initialized yX4_middleOf.cls ∈ lw_ok ∧ Cond.code yX4_middleOf cX4_middleOf 6 (some .int) ∈ lw_ok ∧ (yX4_middleOf.cls ≠ "java/lang/invoke/MethodHandle" ∧ yX4_middleOf.cls ≠ "java/lang/invoke/VarHandle" ∧ (parseMethodDescriptor yX4_middleOf.desc).map (fun d => d.parameters.length) = some 1) := ⟨ok_1 11 rfl rfl, ok_4 176 rfl rfl, by decide +kernel⟩
theorem mi_X4_middleOf : Cond.instanceMethod yX4_middleOf ∈ lw_ok := ok_4 174 rfl rfl
theorem mq_X4_middleOf : Cond.selects yX4_middleOf.cls yX4_middleOf yX4_middleOf ∈ lw_ok := ok_4 175 rfl rfl
theorem mb_X4_farFromMiddle : Cond.initialized yX4_farFromMiddle.cls ∈ lw_ok ∧ Cond.code yX4_farFromMiddle cX4_farFromMiddle 5 (some .int) ∈ lw_ok ∧ (yX4_farFromMiddle.cls ≠ "java/lang/invoke/MethodHandle" ∧ yX4_farFromMiddle.cls ≠ "java/lang/invoke/VarHandle" ∧ (parseMethodDescriptor yX4_farFromMiddle.desc).map (fun d => d.parameters.length) = some 1) := ⟨ok_1 11 rfl rfl, ok_4 180 rfl rfl, by decide +kernel⟩
theorem mi_X4_farFromMiddle : Cond.instanceMethod yX4_farFromMiddle ∈ lw_ok := ok_4 178 rfl rfl
theorem mq_X4_farFromMiddle : Cond.selects yX4_farFromMiddle.cls yX4_farFromMiddle yX4_farFromMiddle ∈ lw_ok := ok_4 179 rfl rfl
theorem mb_X4_moreThanHalf : Cond.initialized yX4_moreThanHalf.cls ∈ lw_ok ∧ Cond.code yX4_moreThanHalf cX4_moreThanHalf 3 (some .int) ∈ lw_ok ∧ (yX4_moreThanHalf.cls ≠ "java/lang/invoke/MethodHandle" ∧ yX4_moreThanHalf.cls ≠ "java/lang/invoke/VarHandle" ∧ (parseMethodDescriptor yX4_moreThanHalf.desc).map (fun d => d.parameters.length) = some 1) := ⟨ok_1 11 rfl rfl, ok_4 186 rfl rfl, by decide +kernel⟩
theorem mi_X4_moreThanHalf : Cond.instanceMethod yX4_moreThanHalf ∈ lw_ok := ok_4 184 rfl rfl
theorem mq_X4_moreThanHalf : Cond.selects yX4_moreThanHalf.cls yX4_moreThanHalf yX4_moreThanHalf ∈ lw_ok := ok_4 185 rfl rfl
theorem mb_X4_timesTold : Cond.initialized yX4_timesTold.cls ∈ lw_ok ∧ Cond.code yX4_timesTold cX4_timesTold 4 (some .int) ∈ lw_ok ∧ (yX4_timesTold.cls ≠ "java/lang/invoke/MethodHandle" ∧ yX4_timesTold.cls ≠ "java/lang/invoke/VarHandle" ∧ (parseMethodDescriptor yX4_timesTold.desc).map (fun d => d.parameters.length) = some 2) := ⟨ok_1 11 rfl rfl, ok_4 189 rfl rfl, by decide +kernel⟩
theorem mt_X4_timesTold : Cond.static yX4_timesTold ∈ lw_ok := ok_4 188 rfl rfl
theorem mb_X4_mostTold : Cond.initialized yX4_mostTold.cls ∈ lw_ok ∧ Cond.code yX4_mostTold cX4_mostTold 4 (some .int) ∈ lw_ok ∧ (yX4_mostTold.cls ≠ "java/lang/invoke/MethodHandle" ∧ yX4_mostTold.cls ≠ "java/lang/invoke/VarHandle" ∧ (parseMethodDescriptor yX4_mostTold.desc).map (fun d => d.parameters.length) = some 1) := ⟨ok_1 11 rfl rfl, ok_4 193 rfl rfl, by decide +kernel⟩
theorem mi_X4_mostTold : Cond.instanceMethod yX4_mostTold ∈ lw_ok := ok_4 191 rfl rfl
theorem mq_X4_mostTold : Cond.selects yX4_mostTold.cls yX4_mostTold yX4_mostTold ∈ lw_ok := ok_4 192 rfl rfl
theorem mb_X11_candle : Cond.initialized yX11_candle.cls ∈ lw_ok ∧ Cond.code yX11_candle cX11_candle 2 (some .int) ∈ lw_ok ∧ (yX11_candle.cls ≠ "java/lang/invoke/MethodHandle" ∧ yX11_candle.cls ≠ "java/lang/invoke/VarHandle" ∧ (parseMethodDescriptor yX11_candle.desc).map (fun d => d.parameters.length) = some 1) := ⟨ok_1 1 rfl rfl, ok_4 198 rfl rfl, by decide +kernel⟩
theorem mi_X11_candle : Cond.instanceMethod yX11_candle ∈ lw_ok := ok_4 196 rfl rfl
theorem mq_X11_candle : Cond.selects yX11_candle.cls yX11_candle yX11_candle ∈ lw_ok := ok_4 197 rfl rfl
theorem mb_X11_candles : Cond.initialized yX11_candles.cls ∈ lw_ok ∧ Cond.code yX11_candles cX11_candles 3 (some .int) ∈ lw_ok ∧ (yX11_candles.cls ≠ "java/lang/invoke/MethodHandle" ∧ yX11_candles.cls ≠ "java/lang/invoke/VarHandle" ∧ (parseMethodDescriptor yX11_candles.desc).map (fun d => d.parameters.length) = some 2) := ⟨ok_1 1 rfl rfl, ok_4 202 rfl rfl, by decide +kernel⟩
theorem mi_X11_candles : Cond.instanceMethod yX11_candles ∈ lw_ok := ok_4 200 rfl rfl
theorem mq_X11_candles : Cond.selects yX11_candles.cls yX11_candles yX11_candles ∈ lw_ok := ok_4 201 rfl rfl
theorem mb_X4_sums : Cond.initialized yX4_sums.cls ∈ lw_ok ∧ Cond.code yX4_sums cX4_sums 7 (some .int) ∈ lw_ok ∧ (yX4_sums.cls ≠ "java/lang/invoke/MethodHandle" ∧ yX4_sums.cls ≠ "java/lang/invoke/VarHandle" ∧ (parseMethodDescriptor yX4_sums.desc).map (fun d => d.parameters.length) = some 3) := ⟨ok_1 11 rfl rfl, ok_4 206 rfl rfl, by decide +kernel⟩
theorem mi_X4_sums : Cond.instanceMethod yX4_sums ∈ lw_ok := ok_4 204 rfl rfl
theorem mq_X4_sums : Cond.selects yX4_sums.cls yX4_sums yX4_sums ∈ lw_ok := ok_4 205 rfl rfl
theorem mb_X11_door : Cond.initialized yX11_door.cls ∈ lw_ok ∧ Cond.code yX11_door cX11_door 4 (some .int) ∈ lw_ok ∧ (yX11_door.cls ≠ "java/lang/invoke/MethodHandle" ∧ yX11_door.cls ≠ "java/lang/invoke/VarHandle" ∧ (parseMethodDescriptor yX11_door.desc).map (fun d => d.parameters.length) = some 2) := ⟨ok_1 1 rfl rfl, ok_4 210 rfl rfl, by decide +kernel⟩
theorem mi_X11_door : Cond.instanceMethod yX11_door ∈ lw_ok := ok_4 208 rfl rfl
theorem mq_X11_door : Cond.selects yX11_door.cls yX11_door yX11_door ∈ lw_ok := ok_4 209 rfl rfl
theorem mb_X11_stack : Cond.initialized yX11_stack.cls ∈ lw_ok ∧ Cond.code yX11_stack cX11_stack 1 (some .int) ∈ lw_ok ∧ (yX11_stack.cls ≠ "java/lang/invoke/MethodHandle" ∧ yX11_stack.cls ≠ "java/lang/invoke/VarHandle" ∧ (parseMethodDescriptor yX11_stack.desc).map (fun d => d.parameters.length) = some 0) := ⟨ok_1 1 rfl rfl, ok_4 214 rfl rfl, by decide +kernel⟩
theorem mi_X11_stack : Cond.instanceMethod yX11_stack ∈ lw_ok := ok_4 212 rfl rfl
theorem mq_X11_stack : Cond.selects yX11_stack.cls yX11_stack yX11_stack ∈ lw_ok := ok_4 213 rfl rfl
theorem mb_X4_mostStacked : Cond.initialized yX4_mostStacked.cls ∈ lw_ok ∧ Cond.code yX4_mostStacked cX4_mostStacked 9 (some .int) ∈ lw_ok ∧ (yX4_mostStacked.cls ≠ "java/lang/invoke/MethodHandle" ∧ yX4_mostStacked.cls ≠ "java/lang/invoke/VarHandle" ∧ (parseMethodDescriptor yX4_mostStacked.desc).map (fun d => d.parameters.length) = some 1) := ⟨ok_1 11 rfl rfl, ok_4 218 rfl rfl, by decide +kernel⟩
theorem mi_X4_mostStacked : Cond.instanceMethod yX4_mostStacked ∈ lw_ok := ok_4 216 rfl rfl
theorem mq_X4_mostStacked : Cond.selects yX4_mostStacked.cls yX4_mostStacked yX4_mostStacked ∈ lw_ok := ok_4 217 rfl rfl
theorem mb_X11_stands : Cond.initialized yX11_stands.cls ∈ lw_ok ∧ Cond.code yX11_stands cX11_stands 2 (some .int) ∈ lw_ok ∧ (yX11_stands.cls ≠ "java/lang/invoke/MethodHandle" ∧ yX11_stands.cls ≠ "java/lang/invoke/VarHandle" ∧ (parseMethodDescriptor yX11_stands.desc).map (fun d => d.parameters.length) = some 1) := ⟨ok_1 1 rfl rfl, ok_4 223 rfl rfl, by decide +kernel⟩
theorem mi_X11_stands : Cond.instanceMethod yX11_stands ∈ lw_ok := ok_4 221 rfl rfl
theorem mq_X11_stands : Cond.selects yX11_stands.cls yX11_stands yX11_stands ∈ lw_ok := ok_4 222 rfl rfl
theorem mb_X11_lantern : Cond.initialized yX11_lantern.cls ∈ lw_ok ∧ Cond.code yX11_lantern cX11_lantern 3 (some .int) ∈ lw_ok ∧ (yX11_lantern.cls ≠ "java/lang/invoke/MethodHandle" ∧ yX11_lantern.cls ≠ "java/lang/invoke/VarHandle" ∧ (parseMethodDescriptor yX11_lantern.desc).map (fun d => d.parameters.length) = some 2) := ⟨ok_1 1 rfl rfl, ok_4 227 rfl rfl, by decide +kernel⟩
theorem mi_X11_lantern : Cond.instanceMethod yX11_lantern ∈ lw_ok := ok_4 225 rfl rfl
theorem mq_X11_lantern : Cond.selects yX11_lantern.cls yX11_lantern yX11_lantern ∈ lw_ok := ok_4 226 rfl rfl
theorem mb_X4_shown : Cond.initialized yX4_shown.cls ∈ lw_ok ∧ Cond.code yX4_shown cX4_shown 9 (some .int) ∈ lw_ok ∧ (yX4_shown.cls ≠ "java/lang/invoke/MethodHandle" ∧ yX4_shown.cls ≠ "java/lang/invoke/VarHandle" ∧ (parseMethodDescriptor yX4_shown.desc).map (fun d => d.parameters.length) = some 3) := ⟨ok_1 11 rfl rfl, ok_4 231 rfl rfl, by decide +kernel⟩
theorem mi_X4_shown : Cond.instanceMethod yX4_shown ∈ lw_ok := ok_4 229 rfl rfl
theorem mq_X4_shown : Cond.selects yX4_shown.cls yX4_shown yX4_shown ∈ lw_ok := ok_4 230 rfl rfl
theorem mb_X11_bill : Cond.initialized yX11_bill.cls ∈ lw_ok ∧ Cond.code yX11_bill cX11_bill 3 (some .int) ∈ lw_ok ∧ (yX11_bill.cls ≠ "java/lang/invoke/MethodHandle" ∧ yX11_bill.cls ≠ "java/lang/invoke/VarHandle" ∧ (parseMethodDescriptor yX11_bill.desc).map (fun d => d.parameters.length) = some 2) := ⟨ok_1 1 rfl rfl, ok_4 235 rfl rfl, by decide +kernel⟩
theorem mi_X11_bill : Cond.instanceMethod yX11_bill ∈ lw_ok := ok_4 233 rfl rfl
theorem mq_X11_bill : Cond.selects yX11_bill.cls yX11_bill yX11_bill ∈ lw_ok := ok_4 234 rfl rfl
theorem mb_X11_unlikeBills : Cond.initialized yX11_unlikeBills.cls ∈ lw_ok ∧ Cond.code yX11_unlikeBills cX11_unlikeBills 2 (some .boolean) ∈ lw_ok ∧ (yX11_unlikeBills.cls ≠ "java/lang/invoke/MethodHandle" ∧ yX11_unlikeBills.cls ≠ "java/lang/invoke/VarHandle" ∧ (parseMethodDescriptor yX11_unlikeBills.desc).map (fun d => d.parameters.length) = some 2) := ⟨ok_1 1 rfl rfl, ok_4 238 rfl rfl, by decide +kernel⟩
theorem mt_X11_unlikeBills : Cond.static yX11_unlikeBills ∈ lw_ok := ok_4 237 rfl rfl
theorem mb_X11_bills : Cond.initialized yX11_bills.cls ∈ lw_ok ∧ Cond.code yX11_bills cX11_bills 2 (some .int) ∈ lw_ok ∧ (yX11_bills.cls ≠ "java/lang/invoke/MethodHandle" ∧ yX11_bills.cls ≠ "java/lang/invoke/VarHandle" ∧ (parseMethodDescriptor yX11_bills.desc).map (fun d => d.parameters.length) = some 1) := ⟨ok_1 1 rfl rfl, ok_5 2 rfl rfl, by decide +kernel⟩
theorem mi_X11_bills : Cond.instanceMethod yX11_bills ∈ lw_ok := ok_5 0 rfl rfl
theorem mq_X11_bills : Cond.selects yX11_bills.cls yX11_bills yX11_bills ∈ lw_ok := ok_5 1 rfl rfl
theorem mb_X4_together : Cond.initialized yX4_together.cls ∈ lw_ok ∧ Cond.code yX4_together cX4_together 7 (some .int) ∈ lw_ok ∧ (yX4_together.cls ≠ "java/lang/invoke/MethodHandle" ∧ yX4_together.cls ≠ "java/lang/invoke/VarHandle" ∧ (parseMethodDescriptor yX4_together.desc).map (fun d => d.parameters.length) = some 2) := ⟨ok_1 11 rfl rfl, ok_5 6 rfl rfl, by decide +kernel⟩
theorem mi_X4_together : Cond.instanceMethod yX4_together ∈ lw_ok := ok_5 4 rfl rfl
theorem mq_X4_together : Cond.selects yX4_together.cls yX4_together yX4_together ∈ lw_ok := ok_5 5 rfl rfl
theorem mb_X4_goTogether : Cond.initialized yX4_goTogether.cls ∈ lw_ok ∧ Cond.code yX4_goTogether cX4_goTogether 4 (some .boolean) ∈ lw_ok ∧ (yX4_goTogether.cls ≠ "java/lang/invoke/MethodHandle" ∧ yX4_goTogether.cls ≠ "java/lang/invoke/VarHandle" ∧ (parseMethodDescriptor yX4_goTogether.desc).map (fun d => d.parameters.length) = some 2) := ⟨ok_1 11 rfl rfl, ok_5 9 rfl rfl, by decide +kernel⟩
theorem mt_X4_goTogether : Cond.static yX4_goTogether ∈ lw_ok := ok_5 8 rfl rfl
theorem mb_X11_before : Cond.initialized yX11_before.cls ∈ lw_ok ∧ Cond.code yX11_before cX11_before 3 (some .int) ∈ lw_ok ∧ (yX11_before.cls ≠ "java/lang/invoke/MethodHandle" ∧ yX11_before.cls ≠ "java/lang/invoke/VarHandle" ∧ (parseMethodDescriptor yX11_before.desc).map (fun d => d.parameters.length) = some 2) := ⟨ok_1 1 rfl rfl, ok_5 13 rfl rfl, by decide +kernel⟩
theorem mi_X11_before : Cond.instanceMethod yX11_before ∈ lw_ok := ok_5 11 rfl rfl
theorem mq_X11_before : Cond.selects yX11_before.cls yX11_before yX11_before ∈ lw_ok := ok_5 12 rfl rfl
theorem mb_X11_order : Cond.initialized yX11_order.cls ∈ lw_ok ∧ Cond.code yX11_order cX11_order 1 (some .int) ∈ lw_ok ∧ (yX11_order.cls ≠ "java/lang/invoke/MethodHandle" ∧ yX11_order.cls ≠ "java/lang/invoke/VarHandle" ∧ (parseMethodDescriptor yX11_order.desc).map (fun d => d.parameters.length) = some 0) := ⟨ok_1 1 rfl rfl, ok_5 17 rfl rfl, by decide +kernel⟩
theorem mi_X11_order : Cond.instanceMethod yX11_order ∈ lw_ok := ok_5 15 rfl rfl
theorem mq_X11_order : Cond.selects yX11_order.cls yX11_order yX11_order ∈ lw_ok := ok_5 16 rfl rfl
theorem mb_X4_rowsOfAll : Cond.initialized yX4_rowsOfAll.cls ∈ lw_ok ∧ Cond.code yX4_rowsOfAll cX4_rowsOfAll 5 (some .int) ∈ lw_ok ∧ (yX4_rowsOfAll.cls ≠ "java/lang/invoke/MethodHandle" ∧ yX4_rowsOfAll.cls ≠ "java/lang/invoke/VarHandle" ∧ (parseMethodDescriptor yX4_rowsOfAll.desc).map (fun d => d.parameters.length) = some 1) := ⟨ok_1 11 rfl rfl, ok_5 21 rfl rfl, by decide +kernel⟩
theorem mi_X4_rowsOfAll : Cond.instanceMethod yX4_rowsOfAll ∈ lw_ok := ok_5 19 rfl rfl
theorem mq_X4_rowsOfAll : Cond.selects yX4_rowsOfAll.cls yX4_rowsOfAll yX4_rowsOfAll ∈ lw_ok := ok_5 20 rfl rfl
theorem mb_X11_game : Cond.initialized yX11_game.cls ∈ lw_ok ∧ Cond.code yX11_game cX11_game 3 (some .int) ∈ lw_ok ∧ (yX11_game.cls ≠ "java/lang/invoke/MethodHandle" ∧ yX11_game.cls ≠ "java/lang/invoke/VarHandle" ∧ (parseMethodDescriptor yX11_game.desc).map (fun d => d.parameters.length) = some 2) := ⟨ok_1 1 rfl rfl, ok_5 25 rfl rfl, by decide +kernel⟩
theorem mi_X11_game : Cond.instanceMethod yX11_game ∈ lw_ok := ok_5 23 rfl rfl
theorem mq_X11_game : Cond.selects yX11_game.cls yX11_game yX11_game ∈ lw_ok := ok_5 24 rfl rfl
theorem mb_X2_lay : Cond.initialized yX2_lay.cls ∈ lw_ok ∧ Cond.code yX2_lay cX2_lay 7 (some .boolean) ∈ lw_ok ∧ (yX2_lay.cls ≠ "java/lang/invoke/MethodHandle" ∧ yX2_lay.cls ≠ "java/lang/invoke/VarHandle" ∧ (parseMethodDescriptor yX2_lay.desc).map (fun d => d.parameters.length) = some 1) := ⟨ok_1 12 rfl rfl, ok_5 29 rfl rfl, by decide +kernel⟩
theorem mi_X2_lay : Cond.instanceMethod yX2_lay ∈ lw_ok := ok_5 27 rfl rfl
theorem mq_X2_lay : Cond.selects yX2_lay.cls yX2_lay yX2_lay ∈ lw_ok := ok_5 28 rfl rfl
theorem mb_X2_hasThree : Cond.initialized yX2_hasThree.cls ∈ lw_ok ∧ Cond.code yX2_hasThree cX2_hasThree 3 (some .boolean) ∈ lw_ok ∧ (yX2_hasThree.cls ≠ "java/lang/invoke/MethodHandle" ∧ yX2_hasThree.cls ≠ "java/lang/invoke/VarHandle" ∧ (parseMethodDescriptor yX2_hasThree.desc).map (fun d => d.parameters.length) = some 1) := ⟨ok_1 12 rfl rfl, ok_5 36 rfl rfl, by decide +kernel⟩
theorem mi_X2_hasThree : Cond.instanceMethod yX2_hasThree ∈ lw_ok := ok_5 35 rfl rfl
theorem mq_X2_hasThree : Cond.selects yX2_hasThree.cls yX2_hasThree yX2_hasThree ∈ lw_ok := ok_p 30 rfl rfl
theorem mb_X2_valueForNext : Cond.initialized yX2_valueForNext.cls ∈ lw_ok ∧ Cond.code yX2_valueForNext cX2_valueForNext 1 (some .int) ∈ lw_ok ∧ (yX2_valueForNext.cls ≠ "java/lang/invoke/MethodHandle" ∧ yX2_valueForNext.cls ≠ "java/lang/invoke/VarHandle" ∧ (parseMethodDescriptor yX2_valueForNext.desc).map (fun d => d.parameters.length) = some 0) := ⟨ok_1 12 rfl rfl, ok_5 42 rfl rfl, by decide +kernel⟩
theorem mi_X2_valueForNext : Cond.instanceMethod yX2_valueForNext ∈ lw_ok := ok_5 40 rfl rfl
theorem mq_X2_valueForNext : Cond.selects yX2_valueForNext.cls yX2_valueForNext yX2_valueForNext ∈ lw_ok := ok_5 41 rfl rfl
theorem mb_X2_value : Cond.initialized yX2_value.cls ∈ lw_ok ∧ Cond.code yX2_value cX2_value 6 (some .int) ∈ lw_ok ∧ (yX2_value.cls ≠ "java/lang/invoke/MethodHandle" ∧ yX2_value.cls ≠ "java/lang/invoke/VarHandle" ∧ (parseMethodDescriptor yX2_value.desc).map (fun d => d.parameters.length) = some 2) := ⟨ok_1 12 rfl rfl, ok_5 46 rfl rfl, by decide +kernel⟩
theorem mi_X2_value : Cond.instanceMethod yX2_value ∈ lw_ok := ok_5 45 rfl rfl
theorem mq_X2_value : Cond.selects yX2_value.cls yX2_value yX2_value ∈ lw_ok := ok_p 31 rfl rfl
theorem mb_X2_recall : Cond.initialized yX2_recall.cls ∈ lw_ok ∧ Cond.code yX2_recall cX2_recall 3 (some .int) ∈ lw_ok ∧ (yX2_recall.cls ≠ "java/lang/invoke/MethodHandle" ∧ yX2_recall.cls ≠ "java/lang/invoke/VarHandle" ∧ (parseMethodDescriptor yX2_recall.desc).map (fun d => d.parameters.length) = some 1) := ⟨ok_1 12 rfl rfl, ok_5 50 rfl rfl, by decide +kernel⟩
theorem mi_X2_recall : Cond.instanceMethod yX2_recall ∈ lw_ok := ok_5 49 rfl rfl
theorem mq_X2_recall : Cond.selects yX2_recall.cls yX2_recall yX2_recall ∈ lw_ok := ok_p 32 rfl rfl
theorem mb_X2_whoIsNext : Cond.initialized yX2_whoIsNext.cls ∈ lw_ok ∧ Cond.code yX2_whoIsNext cX2_whoIsNext 1 (some .int) ∈ lw_ok ∧ (yX2_whoIsNext.cls ≠ "java/lang/invoke/MethodHandle" ∧ yX2_whoIsNext.cls ≠ "java/lang/invoke/VarHandle" ∧ (parseMethodDescriptor yX2_whoIsNext.desc).map (fun d => d.parameters.length) = some 1) := ⟨ok_1 12 rfl rfl, ok_5 53 rfl rfl, by decide +kernel⟩
theorem mt_X2_whoIsNext : Cond.static yX2_whoIsNext ∈ lw_ok := ok_5 52 rfl rfl
theorem mb_X2_valueOfMove : Cond.initialized yX2_valueOfMove.cls ∈ lw_ok ∧ Cond.code yX2_valueOfMove cX2_valueOfMove 6 (some .int) ∈ lw_ok ∧ (yX2_valueOfMove.cls ≠ "java/lang/invoke/MethodHandle" ∧ yX2_valueOfMove.cls ≠ "java/lang/invoke/VarHandle" ∧ (parseMethodDescriptor yX2_valueOfMove.desc).map (fun d => d.parameters.length) = some 3) := ⟨ok_1 12 rfl rfl, ok_5 57 rfl rfl, by decide +kernel⟩
theorem mi_X2_valueOfMove : Cond.instanceMethod yX2_valueOfMove ∈ lw_ok := ok_5 56 rfl rfl
theorem mq_X2_valueOfMove : Cond.selects yX2_valueOfMove.cls yX2_valueOfMove yX2_valueOfMove ∈ lw_ok := ok_p 33 rfl rfl
theorem mb_X2_keepValue : Cond.initialized yX2_keepValue.cls ∈ lw_ok ∧ Cond.code yX2_keepValue cX2_keepValue 4 none ∈ lw_ok ∧ (yX2_keepValue.cls ≠ "java/lang/invoke/MethodHandle" ∧ yX2_keepValue.cls ≠ "java/lang/invoke/VarHandle" ∧ (parseMethodDescriptor yX2_keepValue.desc).map (fun d => d.parameters.length) = some 2) := ⟨ok_1 12 rfl rfl, ok_5 62 rfl rfl, by decide +kernel⟩
theorem mi_X2_keepValue : Cond.instanceMethod yX2_keepValue ∈ lw_ok := ok_5 61 rfl rfl
theorem mq_X2_keepValue : Cond.selects yX2_keepValue.cls yX2_keepValue yX2_keepValue ∈ lw_ok := ok_p 34 rfl rfl
theorem mb_X2_firstThatKeeps : Cond.initialized yX2_firstThatKeeps.cls ∈ lw_ok ∧ Cond.code yX2_firstThatKeeps cX2_firstThatKeeps 3 (some .int) ∈ lw_ok ∧ (yX2_firstThatKeeps.cls ≠ "java/lang/invoke/MethodHandle" ∧ yX2_firstThatKeeps.cls ≠ "java/lang/invoke/VarHandle" ∧ (parseMethodDescriptor yX2_firstThatKeeps.desc).map (fun d => d.parameters.length) = some 0) := ⟨ok_1 12 rfl rfl, ok_5 66 rfl rfl, by decide +kernel⟩
theorem mi_X2_firstThatKeeps : Cond.instanceMethod yX2_firstThatKeeps ∈ lw_ok := ok_5 64 rfl rfl
theorem mq_X2_firstThatKeeps : Cond.selects yX2_firstThatKeeps.cls yX2_firstThatKeeps yX2_firstThatKeeps ∈ lw_ok := ok_5 65 rfl rfl
theorem mb_X11_undo : Cond.initialized yX11_undo.cls ∈ lw_ok ∧ Cond.code yX11_undo cX11_undo 1 (some .boolean) ∈ lw_ok ∧ (yX11_undo.cls ≠ "java/lang/invoke/MethodHandle" ∧ yX11_undo.cls ≠ "java/lang/invoke/VarHandle" ∧ (parseMethodDescriptor yX11_undo.desc).map (fun d => d.parameters.length) = some 0) := ⟨ok_1 1 rfl rfl, ok_5 70 rfl rfl, by decide +kernel⟩
theorem mi_X11_undo : Cond.instanceMethod yX11_undo ∈ lw_ok := ok_5 68 rfl rfl
theorem mq_X11_undo : Cond.selects yX11_undo.cls yX11_undo yX11_undo ∈ lw_ok := ok_5 69 rfl rfl
theorem mb_X7_goBack : Cond.initialized yX7_goBack.cls ∈ lw_ok ∧ Cond.code yX7_goBack cX7_goBack 2 (some .boolean) ∈ lw_ok ∧ (yX7_goBack.cls ≠ "java/lang/invoke/MethodHandle" ∧ yX7_goBack.cls ≠ "java/lang/invoke/VarHandle" ∧ (parseMethodDescriptor yX7_goBack.desc).map (fun d => d.parameters.length) = some 1) := ⟨ok_1 8 rfl rfl, ok_5 74 rfl rfl, by decide +kernel⟩
theorem mi_X7_goBack : Cond.instanceMethod yX7_goBack ∈ lw_ok := ok_5 72 rfl rfl
theorem mq_X7_goBack : Cond.selects yX7_goBack.cls yX7_goBack yX7_goBack ∈ lw_ok := ok_5 73 rfl rfl
theorem mb_X11_image : Cond.initialized yX11_image.cls ∈ lw_ok ∧ Cond.code yX11_image cX11_image 2 (some .boolean) ∈ lw_ok ∧ (yX11_image.cls ≠ "java/lang/invoke/MethodHandle" ∧ yX11_image.cls ≠ "java/lang/invoke/VarHandle" ∧ (parseMethodDescriptor yX11_image.desc).map (fun d => d.parameters.length) = some 1) := ⟨ok_1 1 rfl rfl, ok_5 78 rfl rfl, by decide +kernel⟩
theorem mi_X11_image : Cond.instanceMethod yX11_image ∈ lw_ok := ok_5 76 rfl rfl
theorem mq_X11_image : Cond.selects yX11_image.cls yX11_image yX11_image ∈ lw_ok := ok_5 77 rfl rfl
theorem mb_X10_takeAll : Cond.initialized yX10_takeAll.cls ∈ lw_ok ∧ Cond.code yX10_takeAll cX10_takeAll 3 none ∈ lw_ok ∧ (yX10_takeAll.cls ≠ "java/lang/invoke/MethodHandle" ∧ yX10_takeAll.cls ≠ "java/lang/invoke/VarHandle" ∧ (parseMethodDescriptor yX10_takeAll.desc).map (fun d => d.parameters.length) = some 1) := ⟨ok_1 2 rfl rfl, ok_5 82 rfl rfl, by decide +kernel⟩
theorem mi_X10_takeAll : Cond.instanceMethod yX10_takeAll ∈ lw_ok := ok_5 80 rfl rfl
theorem mq_X10_takeAll : Cond.selects yX10_takeAll.cls yX10_takeAll yX10_takeAll ∈ lw_ok := ok_5 81 rfl rfl
theorem mb_X3_takePages : Cond.initialized yX3_takePages.cls ∈ lw_ok ∧ Cond.code yX3_takePages cX3_takePages 2 none ∈ lw_ok ∧ (yX3_takePages.cls ≠ "java/lang/invoke/MethodHandle" ∧ yX3_takePages.cls ≠ "java/lang/invoke/VarHandle" ∧ (parseMethodDescriptor yX3_takePages.desc).map (fun d => d.parameters.length) = some 1) := ⟨ok_1 4 rfl rfl, ok_5 87 rfl rfl, by decide +kernel⟩
theorem mi_X3_takePages : Cond.instanceMethod yX3_takePages ∈ lw_ok := ok_5 85 rfl rfl
theorem mq_X3_takePages : Cond.selects yX3_takePages.cls yX3_takePages yX3_takePages ∈ lw_ok := ok_5 86 rfl rfl
theorem mb_X9_takeList : Cond.initialized yX9_takeList.cls ∈ lw_ok ∧ Cond.code yX9_takeList cX9_takeList 3 none ∈ lw_ok ∧ (yX9_takeList.cls ≠ "java/lang/invoke/MethodHandle" ∧ yX9_takeList.cls ≠ "java/lang/invoke/VarHandle" ∧ (parseMethodDescriptor yX9_takeList.desc).map (fun d => d.parameters.length) = some 1) := ⟨ok_1 6 rfl rfl, ok_5 92 rfl rfl, by decide +kernel⟩
theorem mi_X9_takeList : Cond.instanceMethod yX9_takeList ∈ lw_ok := ok_5 90 rfl rfl
theorem mq_X9_takeList : Cond.selects yX9_takeList.cls yX9_takeList yX9_takeList ∈ lw_ok := ok_5 91 rfl rfl
theorem mb_X11_look : Cond.initialized yX11_look.cls ∈ lw_ok ∧ Cond.code yX11_look cX11_look 2 (some .int) ∈ lw_ok ∧ (yX11_look.cls ≠ "java/lang/invoke/MethodHandle" ∧ yX11_look.cls ≠ "java/lang/invoke/VarHandle" ∧ (parseMethodDescriptor yX11_look.desc).map (fun d => d.parameters.length) = some 1) := ⟨ok_1 1 rfl rfl, ok_5 98 rfl rfl, by decide +kernel⟩
theorem mi_X11_look : Cond.instanceMethod yX11_look ∈ lw_ok := ok_5 96 rfl rfl
theorem mq_X11_look : Cond.selects yX11_look.cls yX11_look yX11_look ∈ lw_ok := ok_5 97 rfl rfl
theorem mb_X10_linesOf : Cond.initialized yX10_linesOf.cls ∈ lw_ok ∧ Cond.code yX10_linesOf cX10_linesOf 2 (some .int) ∈ lw_ok ∧ (yX10_linesOf.cls ≠ "java/lang/invoke/MethodHandle" ∧ yX10_linesOf.cls ≠ "java/lang/invoke/VarHandle" ∧ (parseMethodDescriptor yX10_linesOf.desc).map (fun d => d.parameters.length) = some 1) := ⟨ok_1 2 rfl rfl, ok_5 102 rfl rfl, by decide +kernel⟩
theorem mi_X10_linesOf : Cond.instanceMethod yX10_linesOf ∈ lw_ok := ok_5 100 rfl rfl
theorem mq_X10_linesOf : Cond.selects yX10_linesOf.cls yX10_linesOf yX10_linesOf ∈ lw_ok := ok_5 101 rfl rfl
theorem mb_X12_init : Cond.initialized yX12_init.cls ∈ lw_ok ∧ Cond.code yX12_init cX12_init 1 none ∈ lw_ok ∧ (yX12_init.cls ≠ "java/lang/invoke/MethodHandle" ∧ yX12_init.cls ≠ "java/lang/invoke/VarHandle" ∧ (parseMethodDescriptor yX12_init.desc).map (fun d => d.parameters.length) = some 0) := ⟨ok_1 14 rfl rfl, ok_5 107 rfl rfl, by decide +kernel⟩
theorem mi_X12_init : Cond.instanceMethod yX12_init ∈ lw_ok := ok_5 106 rfl rfl
theorem mb_X12_undo : Cond.initialized yX12_undo.cls ∈ lw_ok ∧ Cond.code yX12_undo cX12_undo 2 (some .boolean) ∈ lw_ok ∧ (yX12_undo.cls ≠ "java/lang/invoke/MethodHandle" ∧ yX12_undo.cls ≠ "java/lang/invoke/VarHandle" ∧ (parseMethodDescriptor yX12_undo.desc).map (fun d => d.parameters.length) = some 0) := ⟨ok_1 14 rfl rfl, ok_6 101 rfl rfl, by decide +kernel⟩
theorem mi_X12_undo : Cond.instanceMethod yX12_undo ∈ lw_ok := ok_6 99 rfl rfl
theorem mq_X12_undo : Cond.selects yX12_undo.cls yX12_undo yX12_undo ∈ lw_ok := ok_6 100 rfl rfl
theorem mb_X12_state : Cond.initialized yX12_state.cls ∈ lw_ok ∧ Cond.code yX12_state cX12_state 3 (some .int) ∈ lw_ok ∧ (yX12_state.cls ≠ "java/lang/invoke/MethodHandle" ∧ yX12_state.cls ≠ "java/lang/invoke/VarHandle" ∧ (parseMethodDescriptor yX12_state.desc).map (fun d => d.parameters.length) = some 1) := ⟨ok_1 14 rfl rfl, ok_6 105 rfl rfl, by decide +kernel⟩
theorem mi_X12_state : Cond.instanceMethod yX12_state ∈ lw_ok := ok_6 103 rfl rfl
theorem mq_X12_state : Cond.selects yX12_state.cls yX12_state yX12_state ∈ lw_ok := ok_6 104 rfl rfl
theorem mb_X12_voter : Cond.initialized yX12_voter.cls ∈ lw_ok ∧ Cond.code yX12_voter cX12_voter 5 (some .int) ∈ lw_ok ∧ (yX12_voter.cls ≠ "java/lang/invoke/MethodHandle" ∧ yX12_voter.cls ≠ "java/lang/invoke/VarHandle" ∧ (parseMethodDescriptor yX12_voter.desc).map (fun d => d.parameters.length) = some 4) := ⟨ok_1 14 rfl rfl, ok_6 109 rfl rfl, by decide +kernel⟩
theorem mi_X12_voter : Cond.instanceMethod yX12_voter ∈ lw_ok := ok_6 107 rfl rfl
theorem mq_X12_voter : Cond.selects yX12_voter.cls yX12_voter yX12_voter ∈ lw_ok := ok_6 108 rfl rfl
theorem mb_X12_isIn : Cond.initialized yX12_isIn.cls ∈ lw_ok ∧ Cond.code yX12_isIn cX12_isIn 4 (some .boolean) ∈ lw_ok ∧ (yX12_isIn.cls ≠ "java/lang/invoke/MethodHandle" ∧ yX12_isIn.cls ≠ "java/lang/invoke/VarHandle" ∧ (parseMethodDescriptor yX12_isIn.desc).map (fun d => d.parameters.length) = some 3) := ⟨ok_1 14 rfl rfl, ok_6 113 rfl rfl, by decide +kernel⟩
theorem mi_X12_isIn : Cond.instanceMethod yX12_isIn ∈ lw_ok := ok_6 112 rfl rfl
theorem mq_X12_isIn : Cond.selects yX12_isIn.cls yX12_isIn yX12_isIn ∈ lw_ok := ok_p 35 rfl rfl
theorem mb_X12_set : Cond.initialized yX12_set.cls ∈ lw_ok ∧ Cond.code yX12_set cX12_set 4 (some .boolean) ∈ lw_ok ∧ (yX12_set.cls ≠ "java/lang/invoke/MethodHandle" ∧ yX12_set.cls ≠ "java/lang/invoke/VarHandle" ∧ (parseMethodDescriptor yX12_set.desc).map (fun d => d.parameters.length) = some 3) := ⟨ok_1 14 rfl rfl, ok_6 117 rfl rfl, by decide +kernel⟩
theorem mi_X12_set : Cond.instanceMethod yX12_set ∈ lw_ok := ok_6 115 rfl rfl
theorem mq_X12_set : Cond.selects yX12_set.cls yX12_set yX12_set ∈ lw_ok := ok_6 116 rfl rfl
theorem mb_X12_canSet : Cond.initialized yX12_canSet.cls ∈ lw_ok ∧ Cond.code yX12_canSet cX12_canSet 4 (some .boolean) ∈ lw_ok ∧ (yX12_canSet.cls ≠ "java/lang/invoke/MethodHandle" ∧ yX12_canSet.cls ≠ "java/lang/invoke/VarHandle" ∧ (parseMethodDescriptor yX12_canSet.desc).map (fun d => d.parameters.length) = some 3) := ⟨ok_1 14 rfl rfl, ok_6 121 rfl rfl, by decide +kernel⟩
theorem mi_X12_canSet : Cond.instanceMethod yX12_canSet ∈ lw_ok := ok_6 120 rfl rfl
theorem mq_X12_canSet : Cond.selects yX12_canSet.cls yX12_canSet yX12_canSet ∈ lw_ok := ok_p 36 rfl rfl
theorem mb_X12_isVoter : Cond.initialized yX12_isVoter.cls ∈ lw_ok ∧ Cond.code yX12_isVoter cX12_isVoter 2 (some .boolean) ∈ lw_ok ∧ (yX12_isVoter.cls ≠ "java/lang/invoke/MethodHandle" ∧ yX12_isVoter.cls ≠ "java/lang/invoke/VarHandle" ∧ (parseMethodDescriptor yX12_isVoter.desc).map (fun d => d.parameters.length) = some 1) := ⟨ok_1 14 rfl rfl, ok_6 125 rfl rfl, by decide +kernel⟩
theorem mi_X12_isVoter : Cond.instanceMethod yX12_isVoter ∈ lw_ok := ok_6 124 rfl rfl
theorem mq_X12_isVoter : Cond.selects yX12_isVoter.cls yX12_isVoter yX12_isVoter ∈ lw_ok := ok_p 37 rfl rfl
theorem mb_X12_feed : Cond.initialized yX12_feed.cls ∈ lw_ok ∧ Cond.code yX12_feed cX12_feed 6 (some .int) ∈ lw_ok ∧ (yX12_feed.cls ≠ "java/lang/invoke/MethodHandle" ∧ yX12_feed.cls ≠ "java/lang/invoke/VarHandle" ∧ (parseMethodDescriptor yX12_feed.desc).map (fun d => d.parameters.length) = some 5) := ⟨ok_1 14 rfl rfl, ok_6 129 rfl rfl, by decide +kernel⟩
theorem mi_X12_feed : Cond.instanceMethod yX12_feed ∈ lw_ok := ok_6 127 rfl rfl
theorem mq_X12_feed : Cond.selects yX12_feed.cls yX12_feed yX12_feed ∈ lw_ok := ok_6 128 rfl rfl
theorem mb_X12_types : Cond.initialized yX12_types.cls ∈ lw_ok ∧ Cond.code yX12_types cX12_types 3 none ∈ lw_ok ∧ (yX12_types.cls ≠ "java/lang/invoke/MethodHandle" ∧ yX12_types.cls ≠ "java/lang/invoke/VarHandle" ∧ (parseMethodDescriptor yX12_types.desc).map (fun d => d.parameters.length) = some 1) := ⟨ok_1 14 rfl rfl, ok_6 133 rfl rfl, by decide +kernel⟩
theorem mi_X12_types : Cond.instanceMethod yX12_types ∈ lw_ok := ok_6 132 rfl rfl
theorem mq_X12_types : Cond.selects yX12_types.cls yX12_types yX12_types ∈ lw_ok := ok_p 38 rfl rfl
theorem mb_X12_end : Cond.initialized yX12_end.cls ∈ lw_ok ∧ Cond.code yX12_end cX12_end 2 (some .boolean) ∈ lw_ok ∧ (yX12_end.cls ≠ "java/lang/invoke/MethodHandle" ∧ yX12_end.cls ≠ "java/lang/invoke/VarHandle" ∧ (parseMethodDescriptor yX12_end.desc).map (fun d => d.parameters.length) = some 1) := ⟨ok_1 14 rfl rfl, ok_6 137 rfl rfl, by decide +kernel⟩
theorem mi_X12_end : Cond.instanceMethod yX12_end ∈ lw_ok := ok_6 135 rfl rfl
theorem mq_X12_end : Cond.selects yX12_end.cls yX12_end yX12_end ∈ lw_ok := ok_6 136 rfl rfl
theorem mb_X12_text : Cond.initialized yX12_text.cls ∈ lw_ok ∧ Cond.code yX12_text cX12_text 3 (some .int) ∈ lw_ok ∧ (yX12_text.cls ≠ "java/lang/invoke/MethodHandle" ∧ yX12_text.cls ≠ "java/lang/invoke/VarHandle" ∧ (parseMethodDescriptor yX12_text.desc).map (fun d => d.parameters.length) = some 1) := ⟨ok_1 14 rfl rfl, ok_6 141 rfl rfl, by decide +kernel⟩
theorem mi_X12_text : Cond.instanceMethod yX12_text ∈ lw_ok := ok_6 139 rfl rfl
theorem mq_X12_text : Cond.selects yX12_text.cls yX12_text yX12_text ∈ lw_ok := ok_6 140 rfl rfl
theorem mb_X12_readsText : Cond.initialized yX12_readsText.cls ∈ lw_ok ∧ Cond.code yX12_readsText cX12_readsText 2 (some .int) ∈ lw_ok ∧ (yX12_readsText.cls ≠ "java/lang/invoke/MethodHandle" ∧ yX12_readsText.cls ≠ "java/lang/invoke/VarHandle" ∧ (parseMethodDescriptor yX12_readsText.desc).map (fun d => d.parameters.length) = some 1) := ⟨ok_1 14 rfl rfl, ok_6 145 rfl rfl, by decide +kernel⟩
theorem mi_X12_readsText : Cond.instanceMethod yX12_readsText ∈ lw_ok := ok_6 144 rfl rfl
theorem mq_X12_readsText : Cond.selects yX12_readsText.cls yX12_readsText yX12_readsText ∈ lw_ok := ok_p 39 rfl rfl
theorem mb_X12_reads : Cond.initialized yX12_reads.cls ∈ lw_ok ∧ Cond.code yX12_reads cX12_reads 2 none ∈ lw_ok ∧ (yX12_reads.cls ≠ "java/lang/invoke/MethodHandle" ∧ yX12_reads.cls ≠ "java/lang/invoke/VarHandle" ∧ (parseMethodDescriptor yX12_reads.desc).map (fun d => d.parameters.length) = some 0) := ⟨ok_1 14 rfl rfl, ok_6 149 rfl rfl, by decide +kernel⟩
theorem mi_X12_reads : Cond.instanceMethod yX12_reads ∈ lw_ok := ok_6 148 rfl rfl
theorem mq_X12_reads : Cond.selects yX12_reads.cls yX12_reads yX12_reads ∈ lw_ok := ok_p 40 rfl rfl
theorem mb_X12_raw : Cond.initialized yX12_raw.cls ∈ lw_ok ∧ Cond.code yX12_raw cX12_raw 2 (some .int) ∈ lw_ok ∧ (yX12_raw.cls ≠ "java/lang/invoke/MethodHandle" ∧ yX12_raw.cls ≠ "java/lang/invoke/VarHandle" ∧ (parseMethodDescriptor yX12_raw.desc).map (fun d => d.parameters.length) = some 1) := ⟨ok_1 14 rfl rfl, ok_6 153 rfl rfl, by decide +kernel⟩
theorem mi_X12_raw : Cond.instanceMethod yX12_raw ∈ lw_ok := ok_6 152 rfl rfl
theorem mq_X12_raw : Cond.selects yX12_raw.cls yX12_raw yX12_raw ∈ lw_ok := ok_p 41 rfl rfl
theorem mb_X12_isLetter : Cond.initialized yX12_isLetter.cls ∈ lw_ok ∧ Cond.code yX12_isLetter cX12_isLetter 2 (some .boolean) ∈ lw_ok ∧ (yX12_isLetter.cls ≠ "java/lang/invoke/MethodHandle" ∧ yX12_isLetter.cls ≠ "java/lang/invoke/VarHandle" ∧ (parseMethodDescriptor yX12_isLetter.desc).map (fun d => d.parameters.length) = some 1) := ⟨ok_1 14 rfl rfl, ok_6 157 rfl rfl, by decide +kernel⟩
theorem mi_X12_isLetter : Cond.instanceMethod yX12_isLetter ∈ lw_ok := ok_6 156 rfl rfl
theorem mq_X12_isLetter : Cond.selects yX12_isLetter.cls yX12_isLetter yX12_isLetter ∈ lw_ok := ok_p 42 rfl rfl
theorem mb_X12_wordAt : Cond.initialized yX12_wordAt.cls ∈ lw_ok ∧ Cond.code yX12_wordAt cX12_wordAt 6 (some .int) ∈ lw_ok ∧ (yX12_wordAt.cls ≠ "java/lang/invoke/MethodHandle" ∧ yX12_wordAt.cls ≠ "java/lang/invoke/VarHandle" ∧ (parseMethodDescriptor yX12_wordAt.desc).map (fun d => d.parameters.length) = some 2) := ⟨ok_1 14 rfl rfl, ok_6 161 rfl rfl, by decide +kernel⟩
theorem mi_X12_wordAt : Cond.instanceMethod yX12_wordAt ∈ lw_ok := ok_6 160 rfl rfl
theorem mq_X12_wordAt : Cond.selects yX12_wordAt.cls yX12_wordAt yX12_wordAt ∈ lw_ok := ok_p 43 rfl rfl
theorem mb_X12_isDigit : Cond.initialized yX12_isDigit.cls ∈ lw_ok ∧ Cond.code yX12_isDigit cX12_isDigit 2 (some .boolean) ∈ lw_ok ∧ (yX12_isDigit.cls ≠ "java/lang/invoke/MethodHandle" ∧ yX12_isDigit.cls ≠ "java/lang/invoke/VarHandle" ∧ (parseMethodDescriptor yX12_isDigit.desc).map (fun d => d.parameters.length) = some 1) := ⟨ok_1 14 rfl rfl, ok_6 165 rfl rfl, by decide +kernel⟩
theorem mi_X12_isDigit : Cond.instanceMethod yX12_isDigit ∈ lw_ok := ok_6 164 rfl rfl
theorem mq_X12_isDigit : Cond.selects yX12_isDigit.cls yX12_isDigit yX12_isDigit ∈ lw_ok := ok_p 44 rfl rfl
theorem mb_X12_isMarkSign : Cond.initialized yX12_isMarkSign.cls ∈ lw_ok ∧ Cond.code yX12_isMarkSign cX12_isMarkSign 2 (some .boolean) ∈ lw_ok ∧ (yX12_isMarkSign.cls ≠ "java/lang/invoke/MethodHandle" ∧ yX12_isMarkSign.cls ≠ "java/lang/invoke/VarHandle" ∧ (parseMethodDescriptor yX12_isMarkSign.desc).map (fun d => d.parameters.length) = some 1) := ⟨ok_1 14 rfl rfl, ok_6 169 rfl rfl, by decide +kernel⟩
theorem mi_X12_isMarkSign : Cond.instanceMethod yX12_isMarkSign ∈ lw_ok := ok_6 168 rfl rfl
theorem mq_X12_isMarkSign : Cond.selects yX12_isMarkSign.cls yX12_isMarkSign yX12_isMarkSign ∈ lw_ok := ok_p 45 rfl rfl
theorem mb_X12_readWays : Cond.initialized yX12_readWays.cls ∈ lw_ok ∧ Cond.code yX12_readWays cX12_readWays 2 (some .int) ∈ lw_ok ∧ (yX12_readWays.cls ≠ "java/lang/invoke/MethodHandle" ∧ yX12_readWays.cls ≠ "java/lang/invoke/VarHandle" ∧ (parseMethodDescriptor yX12_readWays.desc).map (fun d => d.parameters.length) = some 0) := ⟨ok_1 14 rfl rfl, ok_6 173 rfl rfl, by decide +kernel⟩
theorem mi_X12_readWays : Cond.instanceMethod yX12_readWays ∈ lw_ok := ok_6 172 rfl rfl
theorem mq_X12_readWays : Cond.selects yX12_readWays.cls yX12_readWays yX12_readWays ∈ lw_ok := ok_p 46 rfl rfl
theorem mb_X12_isWord : Cond.initialized yX12_isWord.cls ∈ lw_ok ∧ Cond.code yX12_isWord cX12_isWord 2 (some .boolean) ∈ lw_ok ∧ (yX12_isWord.cls ≠ "java/lang/invoke/MethodHandle" ∧ yX12_isWord.cls ≠ "java/lang/invoke/VarHandle" ∧ (parseMethodDescriptor yX12_isWord.desc).map (fun d => d.parameters.length) = some 1) := ⟨ok_1 14 rfl rfl, ok_6 177 rfl rfl, by decide +kernel⟩
theorem mi_X12_isWord : Cond.instanceMethod yX12_isWord ∈ lw_ok := ok_6 176 rfl rfl
theorem mq_X12_isWord : Cond.selects yX12_isWord.cls yX12_isWord yX12_isWord ∈ lw_ok := ok_p 47 rfl rfl
theorem mb_X12_errs : Cond.initialized yX12_errs.cls ∈ lw_ok ∧ Cond.code yX12_errs cX12_errs 2 (some .int) ∈ lw_ok ∧ (yX12_errs.cls ≠ "java/lang/invoke/MethodHandle" ∧ yX12_errs.cls ≠ "java/lang/invoke/VarHandle" ∧ (parseMethodDescriptor yX12_errs.desc).map (fun d => d.parameters.length) = some 1) := ⟨ok_1 14 rfl rfl, ok_6 181 rfl rfl, by decide +kernel⟩
theorem mi_X12_errs : Cond.instanceMethod yX12_errs ∈ lw_ok := ok_6 180 rfl rfl
theorem mq_X12_errs : Cond.selects yX12_errs.cls yX12_errs yX12_errs ∈ lw_ok := ok_p 48 rfl rfl
theorem mb_X12_readWay : Cond.initialized yX12_readWay.cls ∈ lw_ok ∧ Cond.code yX12_readWay cX12_readWay 2 (some .int) ∈ lw_ok ∧ (yX12_readWay.cls ≠ "java/lang/invoke/MethodHandle" ∧ yX12_readWay.cls ≠ "java/lang/invoke/VarHandle" ∧ (parseMethodDescriptor yX12_readWay.desc).map (fun d => d.parameters.length) = some 1) := ⟨ok_1 14 rfl rfl, ok_6 185 rfl rfl, by decide +kernel⟩
theorem mi_X12_readWay : Cond.instanceMethod yX12_readWay ∈ lw_ok := ok_6 184 rfl rfl
theorem mq_X12_readWay : Cond.selects yX12_readWay.cls yX12_readWay yX12_readWay ∈ lw_ok := ok_p 49 rfl rfl
theorem mb_X12_readTold : Cond.initialized yX12_readTold.cls ∈ lw_ok ∧ Cond.code yX12_readTold cX12_readTold 4 (some .int) ∈ lw_ok ∧ (yX12_readTold.cls ≠ "java/lang/invoke/MethodHandle" ∧ yX12_readTold.cls ≠ "java/lang/invoke/VarHandle" ∧ (parseMethodDescriptor yX12_readTold.desc).map (fun d => d.parameters.length) = some 3) := ⟨ok_1 14 rfl rfl, ok_6 189 rfl rfl, by decide +kernel⟩
theorem mi_X12_readTold : Cond.instanceMethod yX12_readTold ∈ lw_ok := ok_6 188 rfl rfl
theorem mq_X12_readTold : Cond.selects yX12_readTold.cls yX12_readTold yX12_readTold ∈ lw_ok := ok_p 50 rfl rfl
theorem mb_X12_readNumber : Cond.initialized yX12_readNumber.cls ∈ lw_ok ∧ Cond.code yX12_readNumber cX12_readNumber 4 (some .int) ∈ lw_ok ∧ (yX12_readNumber.cls ≠ "java/lang/invoke/MethodHandle" ∧ yX12_readNumber.cls ≠ "java/lang/invoke/VarHandle" ∧ (parseMethodDescriptor yX12_readNumber.desc).map (fun d => d.parameters.length) = some 2) := ⟨ok_1 14 rfl rfl, ok_6 193 rfl rfl, by decide +kernel⟩
theorem mi_X12_readNumber : Cond.instanceMethod yX12_readNumber ∈ lw_ok := ok_6 192 rfl rfl
theorem mq_X12_readNumber : Cond.selects yX12_readNumber.cls yX12_readNumber yX12_readNumber ∈ lw_ok := ok_p 51 rfl rfl
theorem mb_X12_readMark : Cond.initialized yX12_readMark.cls ∈ lw_ok ∧ Cond.code yX12_readMark cX12_readMark 2 (some .int) ∈ lw_ok ∧ (yX12_readMark.cls ≠ "java/lang/invoke/MethodHandle" ∧ yX12_readMark.cls ≠ "java/lang/invoke/VarHandle" ∧ (parseMethodDescriptor yX12_readMark.desc).map (fun d => d.parameters.length) = some 1) := ⟨ok_1 14 rfl rfl, ok_6 197 rfl rfl, by decide +kernel⟩
theorem mi_X12_readMark : Cond.instanceMethod yX12_readMark ∈ lw_ok := ok_6 196 rfl rfl
theorem mq_X12_readMark : Cond.selects yX12_readMark.cls yX12_readMark yX12_readMark ∈ lw_ok := ok_p 52 rfl rfl
theorem mb_X12_isSign : Cond.initialized yX12_isSign.cls ∈ lw_ok ∧ Cond.code yX12_isSign cX12_isSign 2 (some .boolean) ∈ lw_ok ∧ (yX12_isSign.cls ≠ "java/lang/invoke/MethodHandle" ∧ yX12_isSign.cls ≠ "java/lang/invoke/VarHandle" ∧ (parseMethodDescriptor yX12_isSign.desc).map (fun d => d.parameters.length) = some 1) := ⟨ok_1 14 rfl rfl, ok_6 201 rfl rfl, by decide +kernel⟩
theorem mi_X12_isSign : Cond.instanceMethod yX12_isSign ∈ lw_ok := ok_6 200 rfl rfl
theorem mq_X12_isSign : Cond.selects yX12_isSign.cls yX12_isSign yX12_isSign ∈ lw_ok := ok_p 53 rfl rfl
theorem mb_X12_readSky : Cond.initialized yX12_readSky.cls ∈ lw_ok ∧ Cond.code yX12_readSky cX12_readSky 2 (some .int) ∈ lw_ok ∧ (yX12_readSky.cls ≠ "java/lang/invoke/MethodHandle" ∧ yX12_readSky.cls ≠ "java/lang/invoke/VarHandle" ∧ (parseMethodDescriptor yX12_readSky.desc).map (fun d => d.parameters.length) = some 0) := ⟨ok_1 14 rfl rfl, ok_6 205 rfl rfl, by decide +kernel⟩
theorem mi_X12_readSky : Cond.instanceMethod yX12_readSky ∈ lw_ok := ok_6 204 rfl rfl
theorem mq_X12_readSky : Cond.selects yX12_readSky.cls yX12_readSky yX12_readSky ∈ lw_ok := ok_p 54 rfl rfl
theorem mb_X12_readDeed : Cond.initialized yX12_readDeed.cls ∈ lw_ok ∧ Cond.code yX12_readDeed cX12_readDeed 4 (some .int) ∈ lw_ok ∧ (yX12_readDeed.cls ≠ "java/lang/invoke/MethodHandle" ∧ yX12_readDeed.cls ≠ "java/lang/invoke/VarHandle" ∧ (parseMethodDescriptor yX12_readDeed.desc).map (fun d => d.parameters.length) = some 1) := ⟨ok_1 14 rfl rfl, ok_6 209 rfl rfl, by decide +kernel⟩
theorem mi_X12_readDeed : Cond.instanceMethod yX12_readDeed ∈ lw_ok := ok_6 208 rfl rfl
theorem mq_X12_readDeed : Cond.selects yX12_readDeed.cls yX12_readDeed yX12_readDeed ∈ lw_ok := ok_p 55 rfl rfl
theorem mb_X12_readHeat : Cond.initialized yX12_readHeat.cls ∈ lw_ok ∧ Cond.code yX12_readHeat cX12_readHeat 2 (some .int) ∈ lw_ok ∧ (yX12_readHeat.cls ≠ "java/lang/invoke/MethodHandle" ∧ yX12_readHeat.cls ≠ "java/lang/invoke/VarHandle" ∧ (parseMethodDescriptor yX12_readHeat.desc).map (fun d => d.parameters.length) = some 1) := ⟨ok_1 14 rfl rfl, ok_6 213 rfl rfl, by decide +kernel⟩
theorem mi_X12_readHeat : Cond.instanceMethod yX12_readHeat ∈ lw_ok := ok_6 212 rfl rfl
theorem mq_X12_readHeat : Cond.selects yX12_readHeat.cls yX12_readHeat yX12_readHeat ∈ lw_ok := ok_p 56 rfl rfl
theorem mb_X12_readPutty : Cond.initialized yX12_readPutty.cls ∈ lw_ok ∧ Cond.code yX12_readPutty cX12_readPutty 2 (some .int) ∈ lw_ok ∧ (yX12_readPutty.cls ≠ "java/lang/invoke/MethodHandle" ∧ yX12_readPutty.cls ≠ "java/lang/invoke/VarHandle" ∧ (parseMethodDescriptor yX12_readPutty.desc).map (fun d => d.parameters.length) = some 1) := ⟨ok_1 14 rfl rfl, ok_6 217 rfl rfl, by decide +kernel⟩
theorem mi_X12_readPutty : Cond.instanceMethod yX12_readPutty ∈ lw_ok := ok_6 216 rfl rfl
theorem mq_X12_readPutty : Cond.selects yX12_readPutty.cls yX12_readPutty yX12_readPutty ∈ lw_ok := ok_p 57 rfl rfl
theorem mb_X12_readMind : Cond.initialized yX12_readMind.cls ∈ lw_ok ∧ Cond.code yX12_readMind cX12_readMind 2 (some .int) ∈ lw_ok ∧ (yX12_readMind.cls ≠ "java/lang/invoke/MethodHandle" ∧ yX12_readMind.cls ≠ "java/lang/invoke/VarHandle" ∧ (parseMethodDescriptor yX12_readMind.desc).map (fun d => d.parameters.length) = some 1) := ⟨ok_1 14 rfl rfl, ok_6 221 rfl rfl, by decide +kernel⟩
theorem mi_X12_readMind : Cond.instanceMethod yX12_readMind ∈ lw_ok := ok_6 220 rfl rfl
theorem mq_X12_readMind : Cond.selects yX12_readMind.cls yX12_readMind yX12_readMind ∈ lw_ok := ok_p 58 rfl rfl
theorem mb_X12_readTwins : Cond.initialized yX12_readTwins.cls ∈ lw_ok ∧ Cond.code yX12_readTwins cX12_readTwins 2 (some .int) ∈ lw_ok ∧ (yX12_readTwins.cls ≠ "java/lang/invoke/MethodHandle" ∧ yX12_readTwins.cls ≠ "java/lang/invoke/VarHandle" ∧ (parseMethodDescriptor yX12_readTwins.desc).map (fun d => d.parameters.length) = some 0) := ⟨ok_1 14 rfl rfl, ok_6 225 rfl rfl, by decide +kernel⟩
theorem mi_X12_readTwins : Cond.instanceMethod yX12_readTwins ∈ lw_ok := ok_6 224 rfl rfl
theorem mq_X12_readTwins : Cond.selects yX12_readTwins.cls yX12_readTwins yX12_readTwins ∈ lw_ok := ok_p 59 rfl rfl
theorem mb_X12_readTwin : Cond.initialized yX12_readTwin.cls ∈ lw_ok ∧ Cond.code yX12_readTwin cX12_readTwin 3 (some .int) ∈ lw_ok ∧ (yX12_readTwin.cls ≠ "java/lang/invoke/MethodHandle" ∧ yX12_readTwin.cls ≠ "java/lang/invoke/VarHandle" ∧ (parseMethodDescriptor yX12_readTwin.desc).map (fun d => d.parameters.length) = some 0) := ⟨ok_1 14 rfl rfl, ok_6 229 rfl rfl, by decide +kernel⟩
theorem mi_X12_readTwin : Cond.instanceMethod yX12_readTwin ∈ lw_ok := ok_6 228 rfl rfl
theorem mq_X12_readTwin : Cond.selects yX12_readTwin.cls yX12_readTwin yX12_readTwin ∈ lw_ok := ok_p 60 rfl rfl
theorem mb_X12_readLaw : Cond.initialized yX12_readLaw.cls ∈ lw_ok ∧ Cond.code yX12_readLaw cX12_readLaw 3 (some .int) ∈ lw_ok ∧ (yX12_readLaw.cls ≠ "java/lang/invoke/MethodHandle" ∧ yX12_readLaw.cls ≠ "java/lang/invoke/VarHandle" ∧ (parseMethodDescriptor yX12_readLaw.desc).map (fun d => d.parameters.length) = some 0) := ⟨ok_1 14 rfl rfl, ok_6 233 rfl rfl, by decide +kernel⟩
theorem mi_X12_readLaw : Cond.instanceMethod yX12_readLaw ∈ lw_ok := ok_6 232 rfl rfl
theorem mq_X12_readLaw : Cond.selects yX12_readLaw.cls yX12_readLaw yX12_readLaw ∈ lw_ok := ok_p 61 rfl rfl
theorem mb_X12_isLineWord : Cond.initialized yX12_isLineWord.cls ∈ lw_ok ∧ Cond.code yX12_isLineWord cX12_isLineWord 1 (some .boolean) ∈ lw_ok ∧ (yX12_isLineWord.cls ≠ "java/lang/invoke/MethodHandle" ∧ yX12_isLineWord.cls ≠ "java/lang/invoke/VarHandle" ∧ (parseMethodDescriptor yX12_isLineWord.desc).map (fun d => d.parameters.length) = some 0) := ⟨ok_1 14 rfl rfl, ok_6 237 rfl rfl, by decide +kernel⟩
theorem mi_X12_isLineWord : Cond.instanceMethod yX12_isLineWord ∈ lw_ok := ok_6 236 rfl rfl
theorem mq_X12_isLineWord : Cond.selects yX12_isLineWord.cls yX12_isLineWord yX12_isLineWord ∈ lw_ok := ok_p 62 rfl rfl
theorem mb_X12_readSum : Cond.initialized yX12_readSum.cls ∈ lw_ok ∧ Cond.code yX12_readSum cX12_readSum 2 (some .int) ∈ lw_ok ∧ (yX12_readSum.cls ≠ "java/lang/invoke/MethodHandle" ∧ yX12_readSum.cls ≠ "java/lang/invoke/VarHandle" ∧ (parseMethodDescriptor yX12_readSum.desc).map (fun d => d.parameters.length) = some 0) := ⟨ok_1 14 rfl rfl, ok_7 1 rfl rfl, by decide +kernel⟩
theorem mi_X12_readSum : Cond.instanceMethod yX12_readSum ∈ lw_ok := ok_7 0 rfl rfl
theorem mq_X12_readSum : Cond.selects yX12_readSum.cls yX12_readSum yX12_readSum ∈ lw_ok := ok_p 63 rfl rfl
theorem mb_X12_readProduct : Cond.initialized yX12_readProduct.cls ∈ lw_ok ∧ Cond.code yX12_readProduct cX12_readProduct 2 (some .int) ∈ lw_ok ∧ (yX12_readProduct.cls ≠ "java/lang/invoke/MethodHandle" ∧ yX12_readProduct.cls ≠ "java/lang/invoke/VarHandle" ∧ (parseMethodDescriptor yX12_readProduct.desc).map (fun d => d.parameters.length) = some 0) := ⟨ok_1 14 rfl rfl, ok_7 5 rfl rfl, by decide +kernel⟩
theorem mi_X12_readProduct : Cond.instanceMethod yX12_readProduct ∈ lw_ok := ok_7 4 rfl rfl
theorem mq_X12_readProduct : Cond.selects yX12_readProduct.cls yX12_readProduct yX12_readProduct ∈ lw_ok := ok_p 64 rfl rfl
theorem mb_X12_readUnit : Cond.initialized yX12_readUnit.cls ∈ lw_ok ∧ Cond.code yX12_readUnit cX12_readUnit 2 (some .int) ∈ lw_ok ∧ (yX12_readUnit.cls ≠ "java/lang/invoke/MethodHandle" ∧ yX12_readUnit.cls ≠ "java/lang/invoke/VarHandle" ∧ (parseMethodDescriptor yX12_readUnit.desc).map (fun d => d.parameters.length) = some 0) := ⟨ok_1 14 rfl rfl, ok_7 9 rfl rfl, by decide +kernel⟩
theorem mi_X12_readUnit : Cond.instanceMethod yX12_readUnit ∈ lw_ok := ok_7 8 rfl rfl
theorem mq_X12_readUnit : Cond.selects yX12_readUnit.cls yX12_readUnit yX12_readUnit ∈ lw_ok := ok_p 65 rfl rfl
theorem mb_X12_canAsk : Cond.initialized yX12_canAsk.cls ∈ lw_ok ∧ Cond.code yX12_canAsk cX12_canAsk 2 (some .boolean) ∈ lw_ok ∧ (yX12_canAsk.cls ≠ "java/lang/invoke/MethodHandle" ∧ yX12_canAsk.cls ≠ "java/lang/invoke/VarHandle" ∧ (parseMethodDescriptor yX12_canAsk.desc).map (fun d => d.parameters.length) = some 1) := ⟨ok_1 14 rfl rfl, ok_7 13 rfl rfl, by decide +kernel⟩
theorem mi_X12_canAsk : Cond.instanceMethod yX12_canAsk ∈ lw_ok := ok_7 12 rfl rfl
theorem mq_X12_canAsk : Cond.selects yX12_canAsk.cls yX12_canAsk yX12_canAsk ∈ lw_ok := ok_p 66 rfl rfl
theorem mb_X12_emits : Cond.initialized yX12_emits.cls ∈ lw_ok ∧ Cond.code yX12_emits cX12_emits 3 none ∈ lw_ok ∧ (yX12_emits.cls ≠ "java/lang/invoke/MethodHandle" ∧ yX12_emits.cls ≠ "java/lang/invoke/VarHandle" ∧ (parseMethodDescriptor yX12_emits.desc).map (fun d => d.parameters.length) = some 2) := ⟨ok_1 14 rfl rfl, ok_7 17 rfl rfl, by decide +kernel⟩
theorem mi_X12_emits : Cond.instanceMethod yX12_emits ∈ lw_ok := ok_7 16 rfl rfl
theorem mq_X12_emits : Cond.selects yX12_emits.cls yX12_emits yX12_emits ∈ lw_ok := ok_p 67 rfl rfl
theorem mb_X12_readAny : Cond.initialized yX12_readAny.cls ∈ lw_ok ∧ Cond.code yX12_readAny cX12_readAny 4 (some .int) ∈ lw_ok ∧ (yX12_readAny.cls ≠ "java/lang/invoke/MethodHandle" ∧ yX12_readAny.cls ≠ "java/lang/invoke/VarHandle" ∧ (parseMethodDescriptor yX12_readAny.desc).map (fun d => d.parameters.length) = some 0) := ⟨ok_1 14 rfl rfl, ok_7 21 rfl rfl, by decide +kernel⟩
theorem mi_X12_readAny : Cond.instanceMethod yX12_readAny ∈ lw_ok := ok_7 20 rfl rfl
theorem mq_X12_readAny : Cond.selects yX12_readAny.cls yX12_readAny yX12_readAny ∈ lw_ok := ok_p 68 rfl rfl
theorem mb_X12_waits : Cond.initialized yX12_waits.cls ∈ lw_ok ∧ Cond.code yX12_waits cX12_waits 2 none ∈ lw_ok ∧ (yX12_waits.cls ≠ "java/lang/invoke/MethodHandle" ∧ yX12_waits.cls ≠ "java/lang/invoke/VarHandle" ∧ (parseMethodDescriptor yX12_waits.desc).map (fun d => d.parameters.length) = some 1) := ⟨ok_1 14 rfl rfl, ok_7 25 rfl rfl, by decide +kernel⟩
theorem mi_X12_waits : Cond.instanceMethod yX12_waits ∈ lw_ok := ok_7 24 rfl rfl
theorem mq_X12_waits : Cond.selects yX12_waits.cls yX12_waits yX12_waits ∈ lw_ok := ok_p 69 rfl rfl
theorem mb_X12_readCompared : Cond.initialized yX12_readCompared.cls ∈ lw_ok ∧ Cond.code yX12_readCompared cX12_readCompared 2 (some .int) ∈ lw_ok ∧ (yX12_readCompared.cls ≠ "java/lang/invoke/MethodHandle" ∧ yX12_readCompared.cls ≠ "java/lang/invoke/VarHandle" ∧ (parseMethodDescriptor yX12_readCompared.desc).map (fun d => d.parameters.length) = some 0) := ⟨ok_1 14 rfl rfl, ok_7 29 rfl rfl, by decide +kernel⟩
theorem mi_X12_readCompared : Cond.instanceMethod yX12_readCompared ∈ lw_ok := ok_7 28 rfl rfl
theorem mq_X12_readCompared : Cond.selects yX12_readCompared.cls yX12_readCompared yX12_readCompared ∈ lw_ok := ok_p 70 rfl rfl
theorem mb_X12_settles : Cond.initialized yX12_settles.cls ∈ lw_ok ∧ Cond.code yX12_settles cX12_settles 2 none ∈ lw_ok ∧ (yX12_settles.cls ≠ "java/lang/invoke/MethodHandle" ∧ yX12_settles.cls ≠ "java/lang/invoke/VarHandle" ∧ (parseMethodDescriptor yX12_settles.desc).map (fun d => d.parameters.length) = some 1) := ⟨ok_1 14 rfl rfl, ok_7 33 rfl rfl, by decide +kernel⟩
theorem mi_X12_settles : Cond.instanceMethod yX12_settles ∈ lw_ok := ok_7 32 rfl rfl
theorem mq_X12_settles : Cond.selects yX12_settles.cls yX12_settles yX12_settles ∈ lw_ok := ok_p 71 rfl rfl
theorem mb_X12_takesLaw : Cond.initialized yX12_takesLaw.cls ∈ lw_ok ∧ Cond.code yX12_takesLaw cX12_takesLaw 3 none ∈ lw_ok ∧ (yX12_takesLaw.cls ≠ "java/lang/invoke/MethodHandle" ∧ yX12_takesLaw.cls ≠ "java/lang/invoke/VarHandle" ∧ (parseMethodDescriptor yX12_takesLaw.desc).map (fun d => d.parameters.length) = some 1) := ⟨ok_1 14 rfl rfl, ok_7 37 rfl rfl, by decide +kernel⟩
theorem mi_X12_takesLaw : Cond.instanceMethod yX12_takesLaw ∈ lw_ok := ok_7 36 rfl rfl
theorem mq_X12_takesLaw : Cond.selects yX12_takesLaw.cls yX12_takesLaw yX12_takesLaw ∈ lw_ok := ok_p 72 rfl rfl
theorem mb_X12_takesOther : Cond.initialized yX12_takesOther.cls ∈ lw_ok ∧ Cond.code yX12_takesOther cX12_takesOther 4 none ∈ lw_ok ∧ (yX12_takesOther.cls ≠ "java/lang/invoke/MethodHandle" ∧ yX12_takesOther.cls ≠ "java/lang/invoke/VarHandle" ∧ (parseMethodDescriptor yX12_takesOther.desc).map (fun d => d.parameters.length) = some 2) := ⟨ok_1 14 rfl rfl, ok_7 41 rfl rfl, by decide +kernel⟩
theorem mi_X12_takesOther : Cond.instanceMethod yX12_takesOther ∈ lw_ok := ok_7 40 rfl rfl
theorem mq_X12_takesOther : Cond.selects yX12_takesOther.cls yX12_takesOther yX12_takesOther ∈ lw_ok := ok_p 73 rfl rfl
theorem mb_X12_fault : Cond.initialized yX12_fault.cls ∈ lw_ok ∧ Cond.code yX12_fault cX12_fault 2 (some .int) ∈ lw_ok ∧ (yX12_fault.cls ≠ "java/lang/invoke/MethodHandle" ∧ yX12_fault.cls ≠ "java/lang/invoke/VarHandle" ∧ (parseMethodDescriptor yX12_fault.desc).map (fun d => d.parameters.length) = some 1) := ⟨ok_1 14 rfl rfl, ok_7 45 rfl rfl, by decide +kernel⟩
theorem mi_X12_fault : Cond.instanceMethod yX12_fault ∈ lw_ok := ok_7 43 rfl rfl
theorem mq_X12_fault : Cond.selects yX12_fault.cls yX12_fault yX12_fault ∈ lw_ok := ok_7 44 rfl rfl
theorem mb_X12_press : Cond.initialized yX12_press.cls ∈ lw_ok ∧ Cond.code yX12_press cX12_press 3 (some .int) ∈ lw_ok ∧ (yX12_press.cls ≠ "java/lang/invoke/MethodHandle" ∧ yX12_press.cls ≠ "java/lang/invoke/VarHandle" ∧ (parseMethodDescriptor yX12_press.desc).map (fun d => d.parameters.length) = some 2) := ⟨ok_1 14 rfl rfl, ok_7 49 rfl rfl, by decide +kernel⟩
theorem mi_X12_press : Cond.instanceMethod yX12_press ∈ lw_ok := ok_7 47 rfl rfl
theorem mq_X12_press : Cond.selects yX12_press.cls yX12_press yX12_press ∈ lw_ok := ok_7 48 rfl rfl
theorem mb_X12_canPress : Cond.initialized yX12_canPress.cls ∈ lw_ok ∧ Cond.code yX12_canPress cX12_canPress 2 (some .boolean) ∈ lw_ok ∧ (yX12_canPress.cls ≠ "java/lang/invoke/MethodHandle" ∧ yX12_canPress.cls ≠ "java/lang/invoke/VarHandle" ∧ (parseMethodDescriptor yX12_canPress.desc).map (fun d => d.parameters.length) = some 1) := ⟨ok_1 14 rfl rfl, ok_7 53 rfl rfl, by decide +kernel⟩
theorem mi_X12_canPress : Cond.instanceMethod yX12_canPress ∈ lw_ok := ok_7 52 rfl rfl
theorem mq_X12_canPress : Cond.selects yX12_canPress.cls yX12_canPress yX12_canPress ∈ lw_ok := ok_p 74 rfl rfl
theorem mb_X12_keepsAhead : Cond.initialized yX12_keepsAhead.cls ∈ lw_ok ∧ Cond.code yX12_keepsAhead cX12_keepsAhead 2 none ∈ lw_ok ∧ (yX12_keepsAhead.cls ≠ "java/lang/invoke/MethodHandle" ∧ yX12_keepsAhead.cls ≠ "java/lang/invoke/VarHandle" ∧ (parseMethodDescriptor yX12_keepsAhead.desc).map (fun d => d.parameters.length) = some 0) := ⟨ok_1 14 rfl rfl, ok_7 57 rfl rfl, by decide +kernel⟩
theorem mi_X12_keepsAhead : Cond.instanceMethod yX12_keepsAhead ∈ lw_ok := ok_7 56 rfl rfl
theorem mq_X12_keepsAhead : Cond.selects yX12_keepsAhead.cls yX12_keepsAhead yX12_keepsAhead ∈ lw_ok := ok_p 75 rfl rfl
theorem mb_X12_presses : Cond.initialized yX12_presses.cls ∈ lw_ok ∧ Cond.code yX12_presses cX12_presses 5 (some .int) ∈ lw_ok ∧ (yX12_presses.cls ≠ "java/lang/invoke/MethodHandle" ∧ yX12_presses.cls ≠ "java/lang/invoke/VarHandle" ∧ (parseMethodDescriptor yX12_presses.desc).map (fun d => d.parameters.length) = some 2) := ⟨ok_1 14 rfl rfl, ok_7 61 rfl rfl, by decide +kernel⟩
theorem mi_X12_presses : Cond.instanceMethod yX12_presses ∈ lw_ok := ok_7 60 rfl rfl
theorem mq_X12_presses : Cond.selects yX12_presses.cls yX12_presses yX12_presses ∈ lw_ok := ok_p 76 rfl rfl
theorem mb_X12_isMarked : Cond.initialized yX12_isMarked.cls ∈ lw_ok ∧ Cond.code yX12_isMarked cX12_isMarked 2 (some .boolean) ∈ lw_ok ∧ (yX12_isMarked.cls ≠ "java/lang/invoke/MethodHandle" ∧ yX12_isMarked.cls ≠ "java/lang/invoke/VarHandle" ∧ (parseMethodDescriptor yX12_isMarked.desc).map (fun d => d.parameters.length) = some 1) := ⟨ok_1 14 rfl rfl, ok_7 65 rfl rfl, by decide +kernel⟩
theorem mi_X12_isMarked : Cond.instanceMethod yX12_isMarked ∈ lw_ok := ok_7 64 rfl rfl
theorem mq_X12_isMarked : Cond.selects yX12_isMarked.cls yX12_isMarked yX12_isMarked ∈ lw_ok := ok_p 77 rfl rfl
theorem mb_X12_notes : Cond.initialized yX12_notes.cls ∈ lw_ok ∧ Cond.code yX12_notes cX12_notes 5 none ∈ lw_ok ∧ (yX12_notes.cls ≠ "java/lang/invoke/MethodHandle" ∧ yX12_notes.cls ≠ "java/lang/invoke/VarHandle" ∧ (parseMethodDescriptor yX12_notes.desc).map (fun d => d.parameters.length) = some 3) := ⟨ok_1 14 rfl rfl, ok_7 69 rfl rfl, by decide +kernel⟩
theorem mi_X12_notes : Cond.instanceMethod yX12_notes ∈ lw_ok := ok_7 68 rfl rfl
theorem mq_X12_notes : Cond.selects yX12_notes.cls yX12_notes yX12_notes ∈ lw_ok := ok_p 78 rfl rfl
theorem mb_X12_lesser : Cond.initialized yX12_lesser.cls ∈ lw_ok ∧ Cond.code yX12_lesser cX12_lesser 3 (some .int) ∈ lw_ok ∧ (yX12_lesser.cls ≠ "java/lang/invoke/MethodHandle" ∧ yX12_lesser.cls ≠ "java/lang/invoke/VarHandle" ∧ (parseMethodDescriptor yX12_lesser.desc).map (fun d => d.parameters.length) = some 2) := ⟨ok_1 14 rfl rfl, ok_7 73 rfl rfl, by decide +kernel⟩
theorem mi_X12_lesser : Cond.instanceMethod yX12_lesser ∈ lw_ok := ok_7 72 rfl rfl
theorem mq_X12_lesser : Cond.selects yX12_lesser.cls yX12_lesser yX12_lesser ∈ lw_ok := ok_p 79 rfl rfl
theorem mb_X12_lift : Cond.initialized yX12_lift.cls ∈ lw_ok ∧ Cond.code yX12_lift cX12_lift 3 (some .boolean) ∈ lw_ok ∧ (yX12_lift.cls ≠ "java/lang/invoke/MethodHandle" ∧ yX12_lift.cls ≠ "java/lang/invoke/VarHandle" ∧ (parseMethodDescriptor yX12_lift.desc).map (fun d => d.parameters.length) = some 2) := ⟨ok_1 14 rfl rfl, ok_7 77 rfl rfl, by decide +kernel⟩
theorem mi_X12_lift : Cond.instanceMethod yX12_lift ∈ lw_ok := ok_7 75 rfl rfl
theorem mq_X12_lift : Cond.selects yX12_lift.cls yX12_lift yX12_lift ∈ lw_ok := ok_7 76 rfl rfl
theorem mb_X12_isLifted : Cond.initialized yX12_isLifted.cls ∈ lw_ok ∧ Cond.code yX12_isLifted cX12_isLifted 2 none ∈ lw_ok ∧ (yX12_isLifted.cls ≠ "java/lang/invoke/MethodHandle" ∧ yX12_isLifted.cls ≠ "java/lang/invoke/VarHandle" ∧ (parseMethodDescriptor yX12_isLifted.desc).map (fun d => d.parameters.length) = some 1) := ⟨ok_1 14 rfl rfl, ok_7 81 rfl rfl, by decide +kernel⟩
theorem mi_X12_isLifted : Cond.instanceMethod yX12_isLifted ∈ lw_ok := ok_7 80 rfl rfl
theorem mq_X12_isLifted : Cond.selects yX12_isLifted.cls yX12_isLifted yX12_isLifted ∈ lw_ok := ok_p 80 rfl rfl
theorem mb_X12_isBare : Cond.initialized yX12_isBare.cls ∈ lw_ok ∧ Cond.code yX12_isBare cX12_isBare 2 none ∈ lw_ok ∧ (yX12_isBare.cls ≠ "java/lang/invoke/MethodHandle" ∧ yX12_isBare.cls ≠ "java/lang/invoke/VarHandle" ∧ (parseMethodDescriptor yX12_isBare.desc).map (fun d => d.parameters.length) = some 1) := ⟨ok_1 14 rfl rfl, ok_7 85 rfl rfl, by decide +kernel⟩
theorem mi_X12_isBare : Cond.instanceMethod yX12_isBare ∈ lw_ok := ok_7 84 rfl rfl
theorem mq_X12_isBare : Cond.selects yX12_isBare.cls yX12_isBare yX12_isBare ∈ lw_ok := ok_p 81 rfl rfl
theorem mb_X12_hand : Cond.initialized yX12_hand.cls ∈ lw_ok ∧ Cond.code yX12_hand cX12_hand 3 (some .boolean) ∈ lw_ok ∧ (yX12_hand.cls ≠ "java/lang/invoke/MethodHandle" ∧ yX12_hand.cls ≠ "java/lang/invoke/VarHandle" ∧ (parseMethodDescriptor yX12_hand.desc).map (fun d => d.parameters.length) = some 2) := ⟨ok_1 14 rfl rfl, ok_7 89 rfl rfl, by decide +kernel⟩
theorem mi_X12_hand : Cond.instanceMethod yX12_hand ∈ lw_ok := ok_7 87 rfl rfl
theorem mq_X12_hand : Cond.selects yX12_hand.cls yX12_hand yX12_hand ∈ lw_ok := ok_7 88 rfl rfl
theorem mb_X12_hours : Cond.initialized yX12_hours.cls ∈ lw_ok ∧ Cond.code yX12_hours cX12_hours 4 (some .int) ∈ lw_ok ∧ (yX12_hours.cls ≠ "java/lang/invoke/MethodHandle" ∧ yX12_hours.cls ≠ "java/lang/invoke/VarHandle" ∧ (parseMethodDescriptor yX12_hours.desc).map (fun d => d.parameters.length) = some 1) := ⟨ok_1 14 rfl rfl, ok_7 93 rfl rfl, by decide +kernel⟩
theorem mi_X12_hours : Cond.instanceMethod yX12_hours ∈ lw_ok := ok_7 91 rfl rfl
theorem mq_X12_hours : Cond.selects yX12_hours.cls yX12_hours yX12_hours ∈ lw_ok := ok_7 92 rfl rfl
theorem mb_X12_goesBy : Cond.initialized yX12_goesBy.cls ∈ lw_ok ∧ Cond.code yX12_goesBy cX12_goesBy 3 (some .int) ∈ lw_ok ∧ (yX12_goesBy.cls ≠ "java/lang/invoke/MethodHandle" ∧ yX12_goesBy.cls ≠ "java/lang/invoke/VarHandle" ∧ (parseMethodDescriptor yX12_goesBy.desc).map (fun d => d.parameters.length) = some 0) := ⟨ok_1 14 rfl rfl, ok_7 97 rfl rfl, by decide +kernel⟩
theorem mi_X12_goesBy : Cond.instanceMethod yX12_goesBy ∈ lw_ok := ok_7 96 rfl rfl
theorem mq_X12_goesBy : Cond.selects yX12_goesBy.cls yX12_goesBy yX12_goesBy ∈ lw_ok := ok_p 82 rfl rfl
theorem mb_X12_does : Cond.initialized yX12_does.cls ∈ lw_ok ∧ Cond.code yX12_does cX12_does 2 none ∈ lw_ok ∧ (yX12_does.cls ≠ "java/lang/invoke/MethodHandle" ∧ yX12_does.cls ≠ "java/lang/invoke/VarHandle" ∧ (parseMethodDescriptor yX12_does.desc).map (fun d => d.parameters.length) = some 1) := ⟨ok_1 14 rfl rfl, ok_7 101 rfl rfl, by decide +kernel⟩
theorem mi_X12_does : Cond.instanceMethod yX12_does ∈ lw_ok := ok_7 100 rfl rfl
theorem mq_X12_does : Cond.selects yX12_does.cls yX12_does yX12_does ∈ lw_ok := ok_p 83 rfl rfl
theorem mb_X12_comesOf : Cond.initialized yX12_comesOf.cls ∈ lw_ok ∧ Cond.code yX12_comesOf cX12_comesOf 2 (some .int) ∈ lw_ok ∧ (yX12_comesOf.cls ≠ "java/lang/invoke/MethodHandle" ∧ yX12_comesOf.cls ≠ "java/lang/invoke/VarHandle" ∧ (parseMethodDescriptor yX12_comesOf.desc).map (fun d => d.parameters.length) = some 1) := ⟨ok_1 14 rfl rfl, ok_7 105 rfl rfl, by decide +kernel⟩
theorem mi_X12_comesOf : Cond.instanceMethod yX12_comesOf ∈ lw_ok := ok_7 104 rfl rfl
theorem mq_X12_comesOf : Cond.selects yX12_comesOf.cls yX12_comesOf yX12_comesOf ∈ lw_ok := ok_p 84 rfl rfl
theorem mb_X12_asks : Cond.initialized yX12_asks.cls ∈ lw_ok ∧ Cond.code yX12_asks cX12_asks 3 none ∈ lw_ok ∧ (yX12_asks.cls ≠ "java/lang/invoke/MethodHandle" ∧ yX12_asks.cls ≠ "java/lang/invoke/VarHandle" ∧ (parseMethodDescriptor yX12_asks.desc).map (fun d => d.parameters.length) = some 2) := ⟨ok_1 14 rfl rfl, ok_7 109 rfl rfl, by decide +kernel⟩
theorem mi_X12_asks : Cond.instanceMethod yX12_asks ∈ lw_ok := ok_7 108 rfl rfl
theorem mq_X12_asks : Cond.selects yX12_asks.cls yX12_asks yX12_asks ∈ lw_ok := ok_p 85 rfl rfl
theorem mb_X12_lawTells : Cond.initialized yX12_lawTells.cls ∈ lw_ok ∧ Cond.code yX12_lawTells cX12_lawTells 5 (some .int) ∈ lw_ok ∧ (yX12_lawTells.cls ≠ "java/lang/invoke/MethodHandle" ∧ yX12_lawTells.cls ≠ "java/lang/invoke/VarHandle" ∧ (parseMethodDescriptor yX12_lawTells.desc).map (fun d => d.parameters.length) = some 3) := ⟨ok_1 14 rfl rfl, ok_7 113 rfl rfl, by decide +kernel⟩
theorem mi_X12_lawTells : Cond.instanceMethod yX12_lawTells ∈ lw_ok := ok_7 112 rfl rfl
theorem mq_X12_lawTells : Cond.selects yX12_lawTells.cls yX12_lawTells yX12_lawTells ∈ lw_ok := ok_p 86 rfl rfl
theorem mb_X12_lineOf : Cond.initialized yX12_lineOf.cls ∈ lw_ok ∧ Cond.code yX12_lineOf cX12_lineOf 3 (some .int) ∈ lw_ok ∧ (yX12_lineOf.cls ≠ "java/lang/invoke/MethodHandle" ∧ yX12_lineOf.cls ≠ "java/lang/invoke/VarHandle" ∧ (parseMethodDescriptor yX12_lineOf.desc).map (fun d => d.parameters.length) = some 1) := ⟨ok_1 14 rfl rfl, ok_7 117 rfl rfl, by decide +kernel⟩
theorem mi_X12_lineOf : Cond.instanceMethod yX12_lineOf ∈ lw_ok := ok_7 116 rfl rfl
theorem mq_X12_lineOf : Cond.selects yX12_lineOf.cls yX12_lineOf yX12_lineOf ∈ lw_ok := ok_p 87 rfl rfl
theorem mb_X12_runs : Cond.initialized yX12_runs.cls ∈ lw_ok ∧ Cond.code yX12_runs cX12_runs 6 (some .int) ∈ lw_ok ∧ (yX12_runs.cls ≠ "java/lang/invoke/MethodHandle" ∧ yX12_runs.cls ≠ "java/lang/invoke/VarHandle" ∧ (parseMethodDescriptor yX12_runs.desc).map (fun d => d.parameters.length) = some 3) := ⟨ok_1 14 rfl rfl, ok_7 121 rfl rfl, by decide +kernel⟩
theorem mi_X12_runs : Cond.instanceMethod yX12_runs ∈ lw_ok := ok_7 120 rfl rfl
theorem mq_X12_runs : Cond.selects yX12_runs.cls yX12_runs yX12_runs ∈ lw_ok := ok_p 88 rfl rfl
theorem mb_X12_twoOf : Cond.initialized yX12_twoOf.cls ∈ lw_ok ∧ Cond.code yX12_twoOf cX12_twoOf 4 (some .int) ∈ lw_ok ∧ (yX12_twoOf.cls ≠ "java/lang/invoke/MethodHandle" ∧ yX12_twoOf.cls ≠ "java/lang/invoke/VarHandle" ∧ (parseMethodDescriptor yX12_twoOf.desc).map (fun d => d.parameters.length) = some 3) := ⟨ok_1 14 rfl rfl, ok_7 125 rfl rfl, by decide +kernel⟩
theorem mi_X12_twoOf : Cond.instanceMethod yX12_twoOf ∈ lw_ok := ok_7 124 rfl rfl
theorem mq_X12_twoOf : Cond.selects yX12_twoOf.cls yX12_twoOf yX12_twoOf ∈ lw_ok := ok_p 89 rfl rfl
theorem mb_X12_held : Cond.initialized yX12_held.cls ∈ lw_ok ∧ Cond.code yX12_held cX12_held 4 (some .int) ∈ lw_ok ∧ (yX12_held.cls ≠ "java/lang/invoke/MethodHandle" ∧ yX12_held.cls ≠ "java/lang/invoke/VarHandle" ∧ (parseMethodDescriptor yX12_held.desc).map (fun d => d.parameters.length) = some 3) := ⟨ok_1 14 rfl rfl, ok_7 129 rfl rfl, by decide +kernel⟩
theorem mi_X12_held : Cond.instanceMethod yX12_held ∈ lw_ok := ok_7 128 rfl rfl
theorem mq_X12_held : Cond.selects yX12_held.cls yX12_held yX12_held ∈ lw_ok := ok_p 90 rfl rfl
theorem mb_X12_happens : Cond.initialized yX12_happens.cls ∈ lw_ok ∧ Cond.code yX12_happens cX12_happens 2 (some .boolean) ∈ lw_ok ∧ (yX12_happens.cls ≠ "java/lang/invoke/MethodHandle" ∧ yX12_happens.cls ≠ "java/lang/invoke/VarHandle" ∧ (parseMethodDescriptor yX12_happens.desc).map (fun d => d.parameters.length) = some 1) := ⟨ok_1 14 rfl rfl, ok_7 133 rfl rfl, by decide +kernel⟩
theorem mi_X12_happens : Cond.instanceMethod yX12_happens ∈ lw_ok := ok_7 132 rfl rfl
theorem mq_X12_happens : Cond.selects yX12_happens.cls yX12_happens yX12_happens ∈ lw_ok := ok_p 91 rfl rfl
theorem mb_X12_draw : Cond.initialized yX12_draw.cls ∈ lw_ok ∧ Cond.code yX12_draw cX12_draw 2 (some .int) ∈ lw_ok ∧ (yX12_draw.cls ≠ "java/lang/invoke/MethodHandle" ∧ yX12_draw.cls ≠ "java/lang/invoke/VarHandle" ∧ (parseMethodDescriptor yX12_draw.desc).map (fun d => d.parameters.length) = some 1) := ⟨ok_1 14 rfl rfl, ok_7 137 rfl rfl, by decide +kernel⟩
theorem mi_X12_draw : Cond.instanceMethod yX12_draw ∈ lw_ok := ok_7 136 rfl rfl
theorem mq_X12_draw : Cond.selects yX12_draw.cls yX12_draw yX12_draw ∈ lw_ok := ok_p 92 rfl rfl
theorem mb_X12_mightMelt : Cond.initialized yX12_mightMelt.cls ∈ lw_ok ∧ Cond.code yX12_mightMelt cX12_mightMelt 2 none ∈ lw_ok ∧ (yX12_mightMelt.cls ≠ "java/lang/invoke/MethodHandle" ∧ yX12_mightMelt.cls ≠ "java/lang/invoke/VarHandle" ∧ (parseMethodDescriptor yX12_mightMelt.desc).map (fun d => d.parameters.length) = some 1) := ⟨ok_1 14 rfl rfl, ok_7 143 rfl rfl, by decide +kernel⟩
theorem mi_X12_mightMelt : Cond.instanceMethod yX12_mightMelt ∈ lw_ok := ok_7 142 rfl rfl
theorem mq_X12_mightMelt : Cond.selects yX12_mightMelt.cls yX12_mightMelt yX12_mightMelt ∈ lw_ok := ok_p 93 rfl rfl
theorem mb_X12_meltsOf : Cond.initialized yX12_meltsOf.cls ∈ lw_ok ∧ Cond.code yX12_meltsOf cX12_meltsOf 2 (some .int) ∈ lw_ok ∧ (yX12_meltsOf.cls ≠ "java/lang/invoke/MethodHandle" ∧ yX12_meltsOf.cls ≠ "java/lang/invoke/VarHandle" ∧ (parseMethodDescriptor yX12_meltsOf.desc).map (fun d => d.parameters.length) = some 1) := ⟨ok_1 14 rfl rfl, ok_7 147 rfl rfl, by decide +kernel⟩
theorem mi_X12_meltsOf : Cond.instanceMethod yX12_meltsOf ∈ lw_ok := ok_7 146 rfl rfl
theorem mq_X12_meltsOf : Cond.selects yX12_meltsOf.cls yX12_meltsOf yX12_meltsOf ∈ lw_ok := ok_p 94 rfl rfl
theorem mb_X12_asksOf : Cond.initialized yX12_asksOf.cls ∈ lw_ok ∧ Cond.code yX12_asksOf cX12_asksOf 2 none ∈ lw_ok ∧ (yX12_asksOf.cls ≠ "java/lang/invoke/MethodHandle" ∧ yX12_asksOf.cls ≠ "java/lang/invoke/VarHandle" ∧ (parseMethodDescriptor yX12_asksOf.desc).map (fun d => d.parameters.length) = some 1) := ⟨ok_1 14 rfl rfl, ok_7 151 rfl rfl, by decide +kernel⟩
theorem mi_X12_asksOf : Cond.instanceMethod yX12_asksOf ∈ lw_ok := ok_7 150 rfl rfl
theorem mq_X12_asksOf : Cond.selects yX12_asksOf.cls yX12_asksOf yX12_asksOf ∈ lw_ok := ok_p 95 rfl rfl
theorem mb_X12_besideOf : Cond.initialized yX12_besideOf.cls ∈ lw_ok ∧ Cond.code yX12_besideOf cX12_besideOf 3 (some .int) ∈ lw_ok ∧ (yX12_besideOf.cls ≠ "java/lang/invoke/MethodHandle" ∧ yX12_besideOf.cls ≠ "java/lang/invoke/VarHandle" ∧ (parseMethodDescriptor yX12_besideOf.desc).map (fun d => d.parameters.length) = some 1) := ⟨ok_1 14 rfl rfl, ok_7 155 rfl rfl, by decide +kernel⟩
theorem mi_X12_besideOf : Cond.instanceMethod yX12_besideOf ∈ lw_ok := ok_7 154 rfl rfl
theorem mq_X12_besideOf : Cond.selects yX12_besideOf.cls yX12_besideOf yX12_besideOf ∈ lw_ok := ok_p 96 rfl rfl
theorem mb_X12_evening : Cond.initialized yX12_evening.cls ∈ lw_ok ∧ Cond.code yX12_evening cX12_evening 3 none ∈ lw_ok ∧ (yX12_evening.cls ≠ "java/lang/invoke/MethodHandle" ∧ yX12_evening.cls ≠ "java/lang/invoke/VarHandle" ∧ (parseMethodDescriptor yX12_evening.desc).map (fun d => d.parameters.length) = some 0) := ⟨ok_1 14 rfl rfl, ok_7 159 rfl rfl, by decide +kernel⟩
theorem mi_X12_evening : Cond.instanceMethod yX12_evening ∈ lw_ok := ok_7 158 rfl rfl
theorem mq_X12_evening : Cond.selects yX12_evening.cls yX12_evening yX12_evening ∈ lw_ok := ok_p 97 rfl rfl
theorem mb_X12_sumOf : Cond.initialized yX12_sumOf.cls ∈ lw_ok ∧ Cond.code yX12_sumOf cX12_sumOf 3 (some .int) ∈ lw_ok ∧ (yX12_sumOf.cls ≠ "java/lang/invoke/MethodHandle" ∧ yX12_sumOf.cls ≠ "java/lang/invoke/VarHandle" ∧ (parseMethodDescriptor yX12_sumOf.desc).map (fun d => d.parameters.length) = some 0) := ⟨ok_1 14 rfl rfl, ok_7 163 rfl rfl, by decide +kernel⟩
theorem mi_X12_sumOf : Cond.instanceMethod yX12_sumOf ∈ lw_ok := ok_7 162 rfl rfl
theorem mq_X12_sumOf : Cond.selects yX12_sumOf.cls yX12_sumOf yX12_sumOf ∈ lw_ok := ok_p 98 rfl rfl
theorem mb_X12_weighsOf : Cond.initialized yX12_weighsOf.cls ∈ lw_ok ∧ Cond.code yX12_weighsOf cX12_weighsOf 2 (some .int) ∈ lw_ok ∧ (yX12_weighsOf.cls ≠ "java/lang/invoke/MethodHandle" ∧ yX12_weighsOf.cls ≠ "java/lang/invoke/VarHandle" ∧ (parseMethodDescriptor yX12_weighsOf.desc).map (fun d => d.parameters.length) = some 1) := ⟨ok_1 14 rfl rfl, ok_7 167 rfl rfl, by decide +kernel⟩
theorem mi_X12_weighsOf : Cond.instanceMethod yX12_weighsOf ∈ lw_ok := ok_7 166 rfl rfl
theorem mq_X12_weighsOf : Cond.selects yX12_weighsOf.cls yX12_weighsOf yX12_weighsOf ∈ lw_ok := ok_p 99 rfl rfl
theorem mb_X12_of : Cond.initialized yX12_of.cls ∈ lw_ok ∧ Cond.code yX12_of cX12_of 3 (some .int) ∈ lw_ok ∧ (yX12_of.cls ≠ "java/lang/invoke/MethodHandle" ∧ yX12_of.cls ≠ "java/lang/invoke/VarHandle" ∧ (parseMethodDescriptor yX12_of.desc).map (fun d => d.parameters.length) = some 2) := ⟨ok_1 14 rfl rfl, ok_7 171 rfl rfl, by decide +kernel⟩
theorem mi_X12_of : Cond.instanceMethod yX12_of ∈ lw_ok := ok_7 169 rfl rfl
theorem mq_X12_of : Cond.selects yX12_of.cls yX12_of yX12_of ∈ lw_ok := ok_7 170 rfl rfl
theorem mb_X12_cell : Cond.initialized yX12_cell.cls ∈ lw_ok ∧ Cond.code yX12_cell cX12_cell 5 (some .int) ∈ lw_ok ∧ (yX12_cell.cls ≠ "java/lang/invoke/MethodHandle" ∧ yX12_cell.cls ≠ "java/lang/invoke/VarHandle" ∧ (parseMethodDescriptor yX12_cell.desc).map (fun d => d.parameters.length) = some 3) := ⟨ok_1 14 rfl rfl, ok_7 175 rfl rfl, by decide +kernel⟩
theorem mi_X12_cell : Cond.instanceMethod yX12_cell ∈ lw_ok := ok_7 173 rfl rfl
theorem mq_X12_cell : Cond.selects yX12_cell.cls yX12_cell yX12_cell ∈ lw_ok := ok_7 174 rfl rfl
theorem mb_X12_book : Cond.initialized yX12_book.cls ∈ lw_ok ∧ Cond.code yX12_book cX12_book 3 (some .int) ∈ lw_ok ∧ (yX12_book.cls ≠ "java/lang/invoke/MethodHandle" ∧ yX12_book.cls ≠ "java/lang/invoke/VarHandle" ∧ (parseMethodDescriptor yX12_book.desc).map (fun d => d.parameters.length) = some 2) := ⟨ok_1 14 rfl rfl, ok_7 179 rfl rfl, by decide +kernel⟩
theorem mi_X12_book : Cond.instanceMethod yX12_book ∈ lw_ok := ok_7 177 rfl rfl
theorem mq_X12_book : Cond.selects yX12_book.cls yX12_book yX12_book ∈ lw_ok := ok_7 178 rfl rfl
theorem mb_X12_goes : Cond.initialized yX12_goes.cls ∈ lw_ok ∧ Cond.code yX12_goes cX12_goes 5 (some .int) ∈ lw_ok ∧ (yX12_goes.cls ≠ "java/lang/invoke/MethodHandle" ∧ yX12_goes.cls ≠ "java/lang/invoke/VarHandle" ∧ (parseMethodDescriptor yX12_goes.desc).map (fun d => d.parameters.length) = some 2) := ⟨ok_1 14 rfl rfl, ok_7 183 rfl rfl, by decide +kernel⟩
theorem mi_X12_goes : Cond.instanceMethod yX12_goes ∈ lw_ok := ok_7 181 rfl rfl
theorem mq_X12_goes : Cond.selects yX12_goes.cls yX12_goes yX12_goes ∈ lw_ok := ok_7 182 rfl rfl
theorem mb_X12_thinks : Cond.initialized yX12_thinks.cls ∈ lw_ok ∧ Cond.code yX12_thinks cX12_thinks 2 none ∈ lw_ok ∧ (yX12_thinks.cls ≠ "java/lang/invoke/MethodHandle" ∧ yX12_thinks.cls ≠ "java/lang/invoke/VarHandle" ∧ (parseMethodDescriptor yX12_thinks.desc).map (fun d => d.parameters.length) = some 0) := ⟨ok_1 14 rfl rfl, ok_7 188 rfl rfl, by decide +kernel⟩
theorem mi_X12_thinks : Cond.instanceMethod yX12_thinks ∈ lw_ok := ok_7 187 rfl rfl
theorem mq_X12_thinks : Cond.selects yX12_thinks.cls yX12_thinks yX12_thinks ∈ lw_ok := ok_p 100 rfl rfl
theorem mb_X12_markMany : Cond.initialized yX12_markMany.cls ∈ lw_ok ∧ Cond.code yX12_markMany cX12_markMany 3 (some .int) ∈ lw_ok ∧ (yX12_markMany.cls ≠ "java/lang/invoke/MethodHandle" ∧ yX12_markMany.cls ≠ "java/lang/invoke/VarHandle" ∧ (parseMethodDescriptor yX12_markMany.desc).map (fun d => d.parameters.length) = some 0) := ⟨ok_1 14 rfl rfl, ok_7 192 rfl rfl, by decide +kernel⟩
theorem mi_X12_markMany : Cond.instanceMethod yX12_markMany ∈ lw_ok := ok_7 191 rfl rfl
theorem mq_X12_markMany : Cond.selects yX12_markMany.cls yX12_markMany yX12_markMany ∈ lw_ok := ok_p 101 rfl rfl
theorem mb_X12_endsThought : Cond.initialized yX12_endsThought.cls ∈ lw_ok ∧ Cond.code yX12_endsThought cX12_endsThought 2 none ∈ lw_ok ∧ (yX12_endsThought.cls ≠ "java/lang/invoke/MethodHandle" ∧ yX12_endsThought.cls ≠ "java/lang/invoke/VarHandle" ∧ (parseMethodDescriptor yX12_endsThought.desc).map (fun d => d.parameters.length) = some 0) := ⟨ok_1 14 rfl rfl, ok_7 196 rfl rfl, by decide +kernel⟩
theorem mi_X12_endsThought : Cond.instanceMethod yX12_endsThought ∈ lw_ok := ok_7 195 rfl rfl
theorem mq_X12_endsThought : Cond.selects yX12_endsThought.cls yX12_endsThought yX12_endsThought ∈ lw_ok := ok_p 102 rfl rfl
theorem mb_X12_wax : Cond.initialized yX12_wax.cls ∈ lw_ok ∧ Cond.code yX12_wax cX12_wax 2 (some .int) ∈ lw_ok ∧ (yX12_wax.cls ≠ "java/lang/invoke/MethodHandle" ∧ yX12_wax.cls ≠ "java/lang/invoke/VarHandle" ∧ (parseMethodDescriptor yX12_wax.desc).map (fun d => d.parameters.length) = some 1) := ⟨ok_1 14 rfl rfl, ok_7 200 rfl rfl, by decide +kernel⟩
theorem mi_X12_wax : Cond.instanceMethod yX12_wax ∈ lw_ok := ok_7 198 rfl rfl
theorem mq_X12_wax : Cond.selects yX12_wax.cls yX12_wax yX12_wax ∈ lw_ok := ok_7 199 rfl rfl
theorem mb_X12_turned : Cond.initialized yX12_turned.cls ∈ lw_ok ∧ Cond.code yX12_turned cX12_turned 5 (some .int) ∈ lw_ok ∧ (yX12_turned.cls ≠ "java/lang/invoke/MethodHandle" ∧ yX12_turned.cls ≠ "java/lang/invoke/VarHandle" ∧ (parseMethodDescriptor yX12_turned.desc).map (fun d => d.parameters.length) = some 0) := ⟨ok_1 14 rfl rfl, ok_7 204 rfl rfl, by decide +kernel⟩
theorem mi_X12_turned : Cond.instanceMethod yX12_turned ∈ lw_ok := ok_7 203 rfl rfl
theorem mq_X12_turned : Cond.selects yX12_turned.cls yX12_turned yX12_turned ∈ lw_ok := ok_p 103 rfl rfl
theorem mb_X12_notFace : Cond.initialized yX12_notFace.cls ∈ lw_ok ∧ Cond.code yX12_notFace cX12_notFace 4 (some .int) ∈ lw_ok ∧ (yX12_notFace.cls ≠ "java/lang/invoke/MethodHandle" ∧ yX12_notFace.cls ≠ "java/lang/invoke/VarHandle" ∧ (parseMethodDescriptor yX12_notFace.desc).map (fun d => d.parameters.length) = some 0) := ⟨ok_1 14 rfl rfl, ok_7 208 rfl rfl, by decide +kernel⟩
theorem mi_X12_notFace : Cond.instanceMethod yX12_notFace ∈ lw_ok := ok_7 207 rfl rfl
theorem mq_X12_notFace : Cond.selects yX12_notFace.cls yX12_notFace yX12_notFace ∈ lw_ok := ok_p 104 rfl rfl
theorem mb_X12_bareSquare : Cond.initialized yX12_bareSquare.cls ∈ lw_ok ∧ Cond.code yX12_bareSquare cX12_bareSquare 4 (some .int) ∈ lw_ok ∧ (yX12_bareSquare.cls ≠ "java/lang/invoke/MethodHandle" ∧ yX12_bareSquare.cls ≠ "java/lang/invoke/VarHandle" ∧ (parseMethodDescriptor yX12_bareSquare.desc).map (fun d => d.parameters.length) = some 1) := ⟨ok_1 14 rfl rfl, ok_7 212 rfl rfl, by decide +kernel⟩
theorem mi_X12_bareSquare : Cond.instanceMethod yX12_bareSquare ∈ lw_ok := ok_7 211 rfl rfl
theorem mq_X12_bareSquare : Cond.selects yX12_bareSquare.cls yX12_bareSquare yX12_bareSquare ∈ lw_ok := ok_p 105 rfl rfl
theorem mb_X12_findsParts : Cond.initialized yX12_findsParts.cls ∈ lw_ok ∧ Cond.code yX12_findsParts cX12_findsParts 4 none ∈ lw_ok ∧ (yX12_findsParts.cls ≠ "java/lang/invoke/MethodHandle" ∧ yX12_findsParts.cls ≠ "java/lang/invoke/VarHandle" ∧ (parseMethodDescriptor yX12_findsParts.desc).map (fun d => d.parameters.length) = some 0) := ⟨ok_1 14 rfl rfl, ok_7 216 rfl rfl, by decide +kernel⟩
theorem mi_X12_findsParts : Cond.instanceMethod yX12_findsParts ∈ lw_ok := ok_7 215 rfl rfl
theorem mq_X12_findsParts : Cond.selects yX12_findsParts.cls yX12_findsParts yX12_findsParts ∈ lw_ok := ok_p 106 rfl rfl
theorem mb_X12_holes : Cond.initialized yX12_holes.cls ∈ lw_ok ∧ Cond.code yX12_holes cX12_holes 5 (some .int) ∈ lw_ok ∧ (yX12_holes.cls ≠ "java/lang/invoke/MethodHandle" ∧ yX12_holes.cls ≠ "java/lang/invoke/VarHandle" ∧ (parseMethodDescriptor yX12_holes.desc).map (fun d => d.parameters.length) = some 0) := ⟨ok_1 14 rfl rfl, ok_7 220 rfl rfl, by decide +kernel⟩
theorem mi_X12_holes : Cond.instanceMethod yX12_holes ∈ lw_ok := ok_7 219 rfl rfl
theorem mq_X12_holes : Cond.selects yX12_holes.cls yX12_holes yX12_holes ∈ lw_ok := ok_p 107 rfl rfl
theorem mb_X12_isAtEdge : Cond.initialized yX12_isAtEdge.cls ∈ lw_ok ∧ Cond.code yX12_isAtEdge cX12_isAtEdge 2 (some .boolean) ∈ lw_ok ∧ (yX12_isAtEdge.cls ≠ "java/lang/invoke/MethodHandle" ∧ yX12_isAtEdge.cls ≠ "java/lang/invoke/VarHandle" ∧ (parseMethodDescriptor yX12_isAtEdge.desc).map (fun d => d.parameters.length) = some 1) := ⟨ok_1 14 rfl rfl, ok_7 224 rfl rfl, by decide +kernel⟩
theorem mi_X12_isAtEdge : Cond.instanceMethod yX12_isAtEdge ∈ lw_ok := ok_7 223 rfl rfl
theorem mq_X12_isAtEdge : Cond.selects yX12_isAtEdge.cls yX12_isAtEdge yX12_isAtEdge ∈ lw_ok := ok_p 108 rfl rfl
theorem mb_X12_blobs : Cond.initialized yX12_blobs.cls ∈ lw_ok ∧ Cond.code yX12_blobs cX12_blobs 5 (some .int) ∈ lw_ok ∧ (yX12_blobs.cls ≠ "java/lang/invoke/MethodHandle" ∧ yX12_blobs.cls ≠ "java/lang/invoke/VarHandle" ∧ (parseMethodDescriptor yX12_blobs.desc).map (fun d => d.parameters.length) = some 1) := ⟨ok_1 14 rfl rfl, ok_7 228 rfl rfl, by decide +kernel⟩
theorem mi_X12_blobs : Cond.instanceMethod yX12_blobs ∈ lw_ok := ok_7 227 rfl rfl
theorem mq_X12_blobs : Cond.selects yX12_blobs.cls yX12_blobs yX12_blobs ∈ lw_ok := ok_p 109 rfl rfl
theorem mb_X12_partOf : Cond.initialized yX12_partOf.cls ∈ lw_ok ∧ Cond.code yX12_partOf cX12_partOf 4 (some .int) ∈ lw_ok ∧ (yX12_partOf.cls ≠ "java/lang/invoke/MethodHandle" ∧ yX12_partOf.cls ≠ "java/lang/invoke/VarHandle" ∧ (parseMethodDescriptor yX12_partOf.desc).map (fun d => d.parameters.length) = some 1) := ⟨ok_1 14 rfl rfl, ok_7 232 rfl rfl, by decide +kernel⟩
theorem mi_X12_partOf : Cond.instanceMethod yX12_partOf ∈ lw_ok := ok_7 231 rfl rfl
theorem mq_X12_partOf : Cond.selects yX12_partOf.cls yX12_partOf yX12_partOf ∈ lw_ok := ok_p 110 rfl rfl
theorem mb_X12_greater : Cond.initialized yX12_greater.cls ∈ lw_ok ∧ Cond.code yX12_greater cX12_greater 3 (some .int) ∈ lw_ok ∧ (yX12_greater.cls ≠ "java/lang/invoke/MethodHandle" ∧ yX12_greater.cls ≠ "java/lang/invoke/VarHandle" ∧ (parseMethodDescriptor yX12_greater.desc).map (fun d => d.parameters.length) = some 2) := ⟨ok_1 14 rfl rfl, ok_7 236 rfl rfl, by decide +kernel⟩
theorem mi_X12_greater : Cond.instanceMethod yX12_greater ∈ lw_ok := ok_7 235 rfl rfl
theorem mq_X12_greater : Cond.selects yX12_greater.cls yX12_greater yX12_greater ∈ lw_ok := ok_p 111 rfl rfl
theorem mb_X12_whose : Cond.initialized yX12_whose.cls ∈ lw_ok ∧ Cond.code yX12_whose cX12_whose 7 (some .int) ∈ lw_ok ∧ (yX12_whose.cls ≠ "java/lang/invoke/MethodHandle" ∧ yX12_whose.cls ≠ "java/lang/invoke/VarHandle" ∧ (parseMethodDescriptor yX12_whose.desc).map (fun d => d.parameters.length) = some 2) := ⟨ok_1 14 rfl rfl, ok_8 0 rfl rfl, by decide +kernel⟩
theorem mi_X12_whose : Cond.instanceMethod yX12_whose ∈ lw_ok := ok_7 238 rfl rfl
theorem mq_X12_whose : Cond.selects yX12_whose.cls yX12_whose yX12_whose ∈ lw_ok := ok_7 239 rfl rfl
theorem mb_X12_onesOf : Cond.initialized yX12_onesOf.cls ∈ lw_ok ∧ Cond.code yX12_onesOf cX12_onesOf 4 (some .int) ∈ lw_ok ∧ (yX12_onesOf.cls ≠ "java/lang/invoke/MethodHandle" ∧ yX12_onesOf.cls ≠ "java/lang/invoke/VarHandle" ∧ (parseMethodDescriptor yX12_onesOf.desc).map (fun d => d.parameters.length) = some 1) := ⟨ok_1 14 rfl rfl, ok_8 4 rfl rfl, by decide +kernel⟩
theorem mi_X12_onesOf : Cond.instanceMethod yX12_onesOf ∈ lw_ok := ok_8 3 rfl rfl
theorem mq_X12_onesOf : Cond.selects yX12_onesOf.cls yX12_onesOf yX12_onesOf ∈ lw_ok := ok_p 112 rfl rfl
theorem mb_X12_could : Cond.initialized yX12_could.cls ∈ lw_ok ∧ Cond.code yX12_could cX12_could 5 (some .int) ∈ lw_ok ∧ (yX12_could.cls ≠ "java/lang/invoke/MethodHandle" ∧ yX12_could.cls ≠ "java/lang/invoke/VarHandle" ∧ (parseMethodDescriptor yX12_could.desc).map (fun d => d.parameters.length) = some 1) := ⟨ok_1 14 rfl rfl, ok_8 8 rfl rfl, by decide +kernel⟩
theorem mi_X12_could : Cond.instanceMethod yX12_could ∈ lw_ok := ok_8 6 rfl rfl
theorem mq_X12_could : Cond.selects yX12_could.cls yX12_could yX12_could ∈ lw_ok := ok_8 7 rfl rfl
theorem mb_X12_has : Cond.initialized yX12_has.cls ∈ lw_ok ∧ Cond.code yX12_has cX12_has 3 (some .boolean) ∈ lw_ok ∧ (yX12_has.cls ≠ "java/lang/invoke/MethodHandle" ∧ yX12_has.cls ≠ "java/lang/invoke/VarHandle" ∧ (parseMethodDescriptor yX12_has.desc).map (fun d => d.parameters.length) = some 2) := ⟨ok_1 14 rfl rfl, ok_8 12 rfl rfl, by decide +kernel⟩
theorem mi_X12_has : Cond.instanceMethod yX12_has ∈ lw_ok := ok_8 11 rfl rfl
theorem mq_X12_has : Cond.selects yX12_has.cls yX12_has yX12_has ∈ lw_ok := ok_p 113 rfl rfl
theorem mb_X12_party : Cond.initialized yX12_party.cls ∈ lw_ok ∧ Cond.code yX12_party cX12_party 2 (some .int) ∈ lw_ok ∧ (yX12_party.cls ≠ "java/lang/invoke/MethodHandle" ∧ yX12_party.cls ≠ "java/lang/invoke/VarHandle" ∧ (parseMethodDescriptor yX12_party.desc).map (fun d => d.parameters.length) = some 1) := ⟨ok_1 14 rfl rfl, ok_8 16 rfl rfl, by decide +kernel⟩
theorem mi_X12_party : Cond.instanceMethod yX12_party ∈ lw_ok := ok_8 14 rfl rfl
theorem mq_X12_party : Cond.selects yX12_party.cls yX12_party yX12_party ∈ lw_ok := ok_8 15 rfl rfl
theorem mb_X12_seats : Cond.initialized yX12_seats.cls ∈ lw_ok ∧ Cond.code yX12_seats cX12_seats 7 (some .int) ∈ lw_ok ∧ (yX12_seats.cls ≠ "java/lang/invoke/MethodHandle" ∧ yX12_seats.cls ≠ "java/lang/invoke/VarHandle" ∧ (parseMethodDescriptor yX12_seats.desc).map (fun d => d.parameters.length) = some 3) := ⟨ok_1 14 rfl rfl, ok_8 20 rfl rfl, by decide +kernel⟩
theorem mi_X12_seats : Cond.instanceMethod yX12_seats ∈ lw_ok := ok_8 18 rfl rfl
theorem mq_X12_seats : Cond.selects yX12_seats.cls yX12_seats yX12_seats ∈ lw_ok := ok_8 19 rfl rfl
theorem mb_X12_shareBy : Cond.initialized yX12_shareBy.cls ∈ lw_ok ∧ Cond.code yX12_shareBy cX12_shareBy 3 (some .int) ∈ lw_ok ∧ (yX12_shareBy.cls ≠ "java/lang/invoke/MethodHandle" ∧ yX12_shareBy.cls ≠ "java/lang/invoke/VarHandle" ∧ (parseMethodDescriptor yX12_shareBy.desc).map (fun d => d.parameters.length) = some 2) := ⟨ok_1 14 rfl rfl, ok_8 24 rfl rfl, by decide +kernel⟩
theorem mi_X12_shareBy : Cond.instanceMethod yX12_shareBy ∈ lw_ok := ok_8 23 rfl rfl
theorem mq_X12_shareBy : Cond.selects yX12_shareBy.cls yX12_shareBy yX12_shareBy ∈ lw_ok := ok_p 114 rfl rfl
theorem mb_X12_house : Cond.initialized yX12_house.cls ∈ lw_ok ∧ Cond.code yX12_house cX12_house 2 (some .int) ∈ lw_ok ∧ (yX12_house.cls ≠ "java/lang/invoke/MethodHandle" ∧ yX12_house.cls ≠ "java/lang/invoke/VarHandle" ∧ (parseMethodDescriptor yX12_house.desc).map (fun d => d.parameters.length) = some 1) := ⟨ok_1 14 rfl rfl, ok_8 28 rfl rfl, by decide +kernel⟩
theorem mi_X12_house : Cond.instanceMethod yX12_house ∈ lw_ok := ok_8 26 rfl rfl
theorem mq_X12_house : Cond.selects yX12_house.cls yX12_house yX12_house ∈ lw_ok := ok_8 27 rfl rfl
theorem mb_X12_parishes : Cond.initialized yX12_parishes.cls ∈ lw_ok ∧ Cond.code yX12_parishes cX12_parishes 5 (some .int) ∈ lw_ok ∧ (yX12_parishes.cls ≠ "java/lang/invoke/MethodHandle" ∧ yX12_parishes.cls ≠ "java/lang/invoke/VarHandle" ∧ (parseMethodDescriptor yX12_parishes.desc).map (fun d => d.parameters.length) = some 2) := ⟨ok_1 14 rfl rfl, ok_8 32 rfl rfl, by decide +kernel⟩
theorem mi_X12_parishes : Cond.instanceMethod yX12_parishes ∈ lw_ok := ok_8 30 rfl rfl
theorem mq_X12_parishes : Cond.selects yX12_parishes.cls yX12_parishes yX12_parishes ∈ lw_ok := ok_8 31 rfl rfl
theorem mb_X12_findsParishes : Cond.initialized yX12_findsParishes.cls ∈ lw_ok ∧ Cond.code yX12_findsParishes cX12_findsParishes 8 none ∈ lw_ok ∧ (yX12_findsParishes.cls ≠ "java/lang/invoke/MethodHandle" ∧ yX12_findsParishes.cls ≠ "java/lang/invoke/VarHandle" ∧ (parseMethodDescriptor yX12_findsParishes.desc).map (fun d => d.parameters.length) = some 2) := ⟨ok_1 14 rfl rfl, ok_8 36 rfl rfl, by decide +kernel⟩
theorem mi_X12_findsParishes : Cond.instanceMethod yX12_findsParishes ∈ lw_ok := ok_8 35 rfl rfl
theorem mq_X12_findsParishes : Cond.selects yX12_findsParishes.cls yX12_findsParishes yX12_findsParishes ∈ lw_ok := ok_p 115 rfl rfl
theorem mb_X12_wish : Cond.initialized yX12_wish.cls ∈ lw_ok ∧ Cond.code yX12_wish cX12_wish 2 (some .int) ∈ lw_ok ∧ (yX12_wish.cls ≠ "java/lang/invoke/MethodHandle" ∧ yX12_wish.cls ≠ "java/lang/invoke/VarHandle" ∧ (parseMethodDescriptor yX12_wish.desc).map (fun d => d.parameters.length) = some 1) := ⟨ok_1 14 rfl rfl, ok_8 42 rfl rfl, by decide +kernel⟩
theorem mi_X12_wish : Cond.instanceMethod yX12_wish ∈ lw_ok := ok_8 40 rfl rfl
theorem mq_X12_wish : Cond.selects yX12_wish.cls yX12_wish yX12_wish ∈ lw_ok := ok_8 41 rfl rfl
theorem mb_X12_name : Cond.initialized yX12_name.cls ∈ lw_ok ∧ Cond.code yX12_name cX12_name 2 (some .int) ∈ lw_ok ∧ (yX12_name.cls ≠ "java/lang/invoke/MethodHandle" ∧ yX12_name.cls ≠ "java/lang/invoke/VarHandle" ∧ (parseMethodDescriptor yX12_name.desc).map (fun d => d.parameters.length) = some 1) := ⟨ok_1 14 rfl rfl, ok_8 46 rfl rfl, by decide +kernel⟩
theorem mi_X12_name : Cond.instanceMethod yX12_name ∈ lw_ok := ok_8 44 rfl rfl
theorem mq_X12_name : Cond.selects yX12_name.cls yX12_name yX12_name ∈ lw_ok := ok_8 45 rfl rfl
theorem mb_X12_middle : Cond.initialized yX12_middle.cls ∈ lw_ok ∧ Cond.code yX12_middle cX12_middle 5 (some .int) ∈ lw_ok ∧ (yX12_middle.cls ≠ "java/lang/invoke/MethodHandle" ∧ yX12_middle.cls ≠ "java/lang/invoke/VarHandle" ∧ (parseMethodDescriptor yX12_middle.desc).map (fun d => d.parameters.length) = some 1) := ⟨ok_1 14 rfl rfl, ok_8 50 rfl rfl, by decide +kernel⟩
theorem mi_X12_middle : Cond.instanceMethod yX12_middle ∈ lw_ok := ok_8 48 rfl rfl
theorem mq_X12_middle : Cond.selects yX12_middle.cls yX12_middle yX12_middle ∈ lw_ok := ok_8 49 rfl rfl
theorem mb_X12_dearest : Cond.initialized yX12_dearest.cls ∈ lw_ok ∧ Cond.code yX12_dearest cX12_dearest 7 (some .int) ∈ lw_ok ∧ (yX12_dearest.cls ≠ "java/lang/invoke/MethodHandle" ∧ yX12_dearest.cls ≠ "java/lang/invoke/VarHandle" ∧ (parseMethodDescriptor yX12_dearest.desc).map (fun d => d.parameters.length) = some 1) := ⟨ok_1 14 rfl rfl, ok_8 54 rfl rfl, by decide +kernel⟩
theorem mi_X12_dearest : Cond.instanceMethod yX12_dearest ∈ lw_ok := ok_8 53 rfl rfl
theorem mq_X12_dearest : Cond.selects yX12_dearest.cls yX12_dearest yX12_dearest ∈ lw_ok := ok_p 116 rfl rfl
theorem mb_X12_middleOf : Cond.initialized yX12_middleOf.cls ∈ lw_ok ∧ Cond.code yX12_middleOf cX12_middleOf 4 (some .int) ∈ lw_ok ∧ (yX12_middleOf.cls ≠ "java/lang/invoke/MethodHandle" ∧ yX12_middleOf.cls ≠ "java/lang/invoke/VarHandle" ∧ (parseMethodDescriptor yX12_middleOf.desc).map (fun d => d.parameters.length) = some 0) := ⟨ok_1 14 rfl rfl, ok_8 58 rfl rfl, by decide +kernel⟩
theorem mi_X12_middleOf : Cond.instanceMethod yX12_middleOf ∈ lw_ok := ok_8 57 rfl rfl
theorem mq_X12_middleOf : Cond.selects yX12_middleOf.cls yX12_middleOf yX12_middleOf ∈ lw_ok := ok_p 117 rfl rfl
theorem mb_X12_apart : Cond.initialized yX12_apart.cls ∈ lw_ok ∧ Cond.code yX12_apart cX12_apart 3 (some .int) ∈ lw_ok ∧ (yX12_apart.cls ≠ "java/lang/invoke/MethodHandle" ∧ yX12_apart.cls ≠ "java/lang/invoke/VarHandle" ∧ (parseMethodDescriptor yX12_apart.desc).map (fun d => d.parameters.length) = some 2) := ⟨ok_1 14 rfl rfl, ok_8 62 rfl rfl, by decide +kernel⟩
theorem mi_X12_apart : Cond.instanceMethod yX12_apart ∈ lw_ok := ok_8 61 rfl rfl
theorem mq_X12_apart : Cond.selects yX12_apart.cls yX12_apart yX12_apart ∈ lw_ok := ok_p 118 rfl rfl
theorem mb_X12_candle : Cond.initialized yX12_candle.cls ∈ lw_ok ∧ Cond.code yX12_candle cX12_candle 2 (some .int) ∈ lw_ok ∧ (yX12_candle.cls ≠ "java/lang/invoke/MethodHandle" ∧ yX12_candle.cls ≠ "java/lang/invoke/VarHandle" ∧ (parseMethodDescriptor yX12_candle.desc).map (fun d => d.parameters.length) = some 1) := ⟨ok_1 14 rfl rfl, ok_8 66 rfl rfl, by decide +kernel⟩
theorem mi_X12_candle : Cond.instanceMethod yX12_candle ∈ lw_ok := ok_8 64 rfl rfl
theorem mq_X12_candle : Cond.selects yX12_candle.cls yX12_candle yX12_candle ∈ lw_ok := ok_8 65 rfl rfl
theorem mb_X12_candles : Cond.initialized yX12_candles.cls ∈ lw_ok ∧ Cond.code yX12_candles cX12_candles 6 (some .int) ∈ lw_ok ∧ (yX12_candles.cls ≠ "java/lang/invoke/MethodHandle" ∧ yX12_candles.cls ≠ "java/lang/invoke/VarHandle" ∧ (parseMethodDescriptor yX12_candles.desc).map (fun d => d.parameters.length) = some 2) := ⟨ok_1 14 rfl rfl, ok_8 70 rfl rfl, by decide +kernel⟩
theorem mi_X12_candles : Cond.instanceMethod yX12_candles ∈ lw_ok := ok_8 68 rfl rfl
theorem mq_X12_candles : Cond.selects yX12_candles.cls yX12_candles yX12_candles ∈ lw_ok := ok_8 69 rfl rfl
theorem mb_X12_door : Cond.initialized yX12_door.cls ∈ lw_ok ∧ Cond.code yX12_door cX12_door 3 (some .int) ∈ lw_ok ∧ (yX12_door.cls ≠ "java/lang/invoke/MethodHandle" ∧ yX12_door.cls ≠ "java/lang/invoke/VarHandle" ∧ (parseMethodDescriptor yX12_door.desc).map (fun d => d.parameters.length) = some 2) := ⟨ok_1 14 rfl rfl, ok_8 74 rfl rfl, by decide +kernel⟩
theorem mi_X12_door : Cond.instanceMethod yX12_door ∈ lw_ok := ok_8 72 rfl rfl
theorem mq_X12_door : Cond.selects yX12_door.cls yX12_door yX12_door ∈ lw_ok := ok_8 73 rfl rfl
theorem mb_X12_stack : Cond.initialized yX12_stack.cls ∈ lw_ok ∧ Cond.code yX12_stack cX12_stack 5 (some .int) ∈ lw_ok ∧ (yX12_stack.cls ≠ "java/lang/invoke/MethodHandle" ∧ yX12_stack.cls ≠ "java/lang/invoke/VarHandle" ∧ (parseMethodDescriptor yX12_stack.desc).map (fun d => d.parameters.length) = some 0) := ⟨ok_1 14 rfl rfl, ok_8 78 rfl rfl, by decide +kernel⟩
theorem mi_X12_stack : Cond.instanceMethod yX12_stack ∈ lw_ok := ok_8 76 rfl rfl
theorem mq_X12_stack : Cond.selects yX12_stack.cls yX12_stack yX12_stack ∈ lw_ok := ok_8 77 rfl rfl
theorem mb_X12_stands : Cond.initialized yX12_stands.cls ∈ lw_ok ∧ Cond.code yX12_stands cX12_stands 2 (some .int) ∈ lw_ok ∧ (yX12_stands.cls ≠ "java/lang/invoke/MethodHandle" ∧ yX12_stands.cls ≠ "java/lang/invoke/VarHandle" ∧ (parseMethodDescriptor yX12_stands.desc).map (fun d => d.parameters.length) = some 1) := ⟨ok_1 14 rfl rfl, ok_8 82 rfl rfl, by decide +kernel⟩
theorem mi_X12_stands : Cond.instanceMethod yX12_stands ∈ lw_ok := ok_8 80 rfl rfl
theorem mq_X12_stands : Cond.selects yX12_stands.cls yX12_stands yX12_stands ∈ lw_ok := ok_8 81 rfl rfl
theorem mb_X12_lantern : Cond.initialized yX12_lantern.cls ∈ lw_ok ∧ Cond.code yX12_lantern cX12_lantern 7 (some .int) ∈ lw_ok ∧ (yX12_lantern.cls ≠ "java/lang/invoke/MethodHandle" ∧ yX12_lantern.cls ≠ "java/lang/invoke/VarHandle" ∧ (parseMethodDescriptor yX12_lantern.desc).map (fun d => d.parameters.length) = some 2) := ⟨ok_1 14 rfl rfl, ok_8 86 rfl rfl, by decide +kernel⟩
theorem mi_X12_lantern : Cond.instanceMethod yX12_lantern ∈ lw_ok := ok_8 84 rfl rfl
theorem mq_X12_lantern : Cond.selects yX12_lantern.cls yX12_lantern yX12_lantern ∈ lw_ok := ok_8 85 rfl rfl
theorem mb_X12_bill : Cond.initialized yX12_bill.cls ∈ lw_ok ∧ Cond.code yX12_bill cX12_bill 4 (some .int) ∈ lw_ok ∧ (yX12_bill.cls ≠ "java/lang/invoke/MethodHandle" ∧ yX12_bill.cls ≠ "java/lang/invoke/VarHandle" ∧ (parseMethodDescriptor yX12_bill.desc).map (fun d => d.parameters.length) = some 2) := ⟨ok_1 14 rfl rfl, ok_8 90 rfl rfl, by decide +kernel⟩
theorem mi_X12_bill : Cond.instanceMethod yX12_bill ∈ lw_ok := ok_8 88 rfl rfl
theorem mq_X12_bill : Cond.selects yX12_bill.cls yX12_bill yX12_bill ∈ lw_ok := ok_8 89 rfl rfl
theorem mb_X12_bills : Cond.initialized yX12_bills.cls ∈ lw_ok ∧ Cond.code yX12_bills cX12_bills 5 (some .int) ∈ lw_ok ∧ (yX12_bills.cls ≠ "java/lang/invoke/MethodHandle" ∧ yX12_bills.cls ≠ "java/lang/invoke/VarHandle" ∧ (parseMethodDescriptor yX12_bills.desc).map (fun d => d.parameters.length) = some 1) := ⟨ok_1 14 rfl rfl, ok_8 94 rfl rfl, by decide +kernel⟩
theorem mi_X12_bills : Cond.instanceMethod yX12_bills ∈ lw_ok := ok_8 92 rfl rfl
theorem mq_X12_bills : Cond.selects yX12_bills.cls yX12_bills yX12_bills ∈ lw_ok := ok_8 93 rfl rfl
theorem mb_X12_doGoTogether : Cond.initialized yX12_doGoTogether.cls ∈ lw_ok ∧ Cond.code yX12_doGoTogether cX12_doGoTogether 3 (some .boolean) ∈ lw_ok ∧ (yX12_doGoTogether.cls ≠ "java/lang/invoke/MethodHandle" ∧ yX12_doGoTogether.cls ≠ "java/lang/invoke/VarHandle" ∧ (parseMethodDescriptor yX12_doGoTogether.desc).map (fun d => d.parameters.length) = some 1) := ⟨ok_1 14 rfl rfl, ok_8 98 rfl rfl, by decide +kernel⟩
theorem mi_X12_doGoTogether : Cond.instanceMethod yX12_doGoTogether ∈ lw_ok := ok_8 97 rfl rfl
theorem mq_X12_doGoTogether : Cond.selects yX12_doGoTogether.cls yX12_doGoTogether yX12_doGoTogether ∈ lw_ok := ok_p 119 rfl rfl
theorem mb_X12_before : Cond.initialized yX12_before.cls ∈ lw_ok ∧ Cond.code yX12_before cX12_before 4 (some .int) ∈ lw_ok ∧ (yX12_before.cls ≠ "java/lang/invoke/MethodHandle" ∧ yX12_before.cls ≠ "java/lang/invoke/VarHandle" ∧ (parseMethodDescriptor yX12_before.desc).map (fun d => d.parameters.length) = some 2) := ⟨ok_1 14 rfl rfl, ok_8 102 rfl rfl, by decide +kernel⟩
theorem mi_X12_before : Cond.instanceMethod yX12_before ∈ lw_ok := ok_8 100 rfl rfl
theorem mq_X12_before : Cond.selects yX12_before.cls yX12_before yX12_before ∈ lw_ok := ok_8 101 rfl rfl
theorem mb_X12_order : Cond.initialized yX12_order.cls ∈ lw_ok ∧ Cond.code yX12_order cX12_order 4 (some .int) ∈ lw_ok ∧ (yX12_order.cls ≠ "java/lang/invoke/MethodHandle" ∧ yX12_order.cls ≠ "java/lang/invoke/VarHandle" ∧ (parseMethodDescriptor yX12_order.desc).map (fun d => d.parameters.length) = some 0) := ⟨ok_1 14 rfl rfl, ok_8 106 rfl rfl, by decide +kernel⟩
theorem mi_X12_order : Cond.instanceMethod yX12_order ∈ lw_ok := ok_8 104 rfl rfl
theorem mq_X12_order : Cond.selects yX12_order.cls yX12_order yX12_order ∈ lw_ok := ok_8 105 rfl rfl
theorem mb_X12_game : Cond.initialized yX12_game.cls ∈ lw_ok ∧ Cond.code yX12_game cX12_game 5 (some .int) ∈ lw_ok ∧ (yX12_game.cls ≠ "java/lang/invoke/MethodHandle" ∧ yX12_game.cls ≠ "java/lang/invoke/VarHandle" ∧ (parseMethodDescriptor yX12_game.desc).map (fun d => d.parameters.length) = some 2) := ⟨ok_1 14 rfl rfl, ok_8 110 rfl rfl, by decide +kernel⟩
theorem mi_X12_game : Cond.instanceMethod yX12_game ∈ lw_ok := ok_8 108 rfl rfl
theorem mq_X12_game : Cond.selects yX12_game.cls yX12_game yX12_game ∈ lw_ok := ok_8 109 rfl rfl
theorem mb_X12_isGame : Cond.initialized yX12_isGame.cls ∈ lw_ok ∧ Cond.code yX12_isGame cX12_isGame 3 (some .boolean) ∈ lw_ok ∧ (yX12_isGame.cls ≠ "java/lang/invoke/MethodHandle" ∧ yX12_isGame.cls ≠ "java/lang/invoke/VarHandle" ∧ (parseMethodDescriptor yX12_isGame.desc).map (fun d => d.parameters.length) = some 1) := ⟨ok_1 14 rfl rfl, ok_8 114 rfl rfl, by decide +kernel⟩
theorem mi_X12_isGame : Cond.instanceMethod yX12_isGame ∈ lw_ok := ok_8 113 rfl rfl
theorem mq_X12_isGame : Cond.selects yX12_isGame.cls yX12_isGame yX12_isGame ∈ lw_ok := ok_p 120 rfl rfl
theorem mb_X12_takesNine : Cond.initialized yX12_takesNine.cls ∈ lw_ok ∧ Cond.code yX12_takesNine cX12_takesNine 5 none ∈ lw_ok ∧ (yX12_takesNine.cls ≠ "java/lang/invoke/MethodHandle" ∧ yX12_takesNine.cls ≠ "java/lang/invoke/VarHandle" ∧ (parseMethodDescriptor yX12_takesNine.desc).map (fun d => d.parameters.length) = some 2) := ⟨ok_1 14 rfl rfl, ok_8 119 rfl rfl, by decide +kernel⟩
theorem mi_X12_takesNine : Cond.instanceMethod yX12_takesNine ∈ lw_ok := ok_8 118 rfl rfl
theorem mq_X12_takesNine : Cond.selects yX12_takesNine.cls yX12_takesNine yX12_takesNine ∈ lw_ok := ok_p 121 rfl rfl
theorem mb_X12_hasThree : Cond.initialized yX12_hasThree.cls ∈ lw_ok ∧ Cond.code yX12_hasThree cX12_hasThree 3 (some .boolean) ∈ lw_ok ∧ (yX12_hasThree.cls ≠ "java/lang/invoke/MethodHandle" ∧ yX12_hasThree.cls ≠ "java/lang/invoke/VarHandle" ∧ (parseMethodDescriptor yX12_hasThree.desc).map (fun d => d.parameters.length) = some 1) := ⟨ok_1 14 rfl rfl, ok_8 123 rfl rfl, by decide +kernel⟩
theorem mi_X12_hasThree : Cond.instanceMethod yX12_hasThree ∈ lw_ok := ok_8 122 rfl rfl
theorem mq_X12_hasThree : Cond.selects yX12_hasThree.cls yX12_hasThree yX12_hasThree ∈ lw_ok := ok_p 122 rfl rfl
theorem mb_X12_areThree : Cond.initialized yX12_areThree.cls ∈ lw_ok ∧ Cond.code yX12_areThree cX12_areThree 5 (some .boolean) ∈ lw_ok ∧ (yX12_areThree.cls ≠ "java/lang/invoke/MethodHandle" ∧ yX12_areThree.cls ≠ "java/lang/invoke/VarHandle" ∧ (parseMethodDescriptor yX12_areThree.desc).map (fun d => d.parameters.length) = some 4) := ⟨ok_1 14 rfl rfl, ok_8 127 rfl rfl, by decide +kernel⟩
theorem mi_X12_areThree : Cond.instanceMethod yX12_areThree ∈ lw_ok := ok_8 126 rfl rfl
theorem mq_X12_areThree : Cond.selects yX12_areThree.cls yX12_areThree yX12_areThree ∈ lw_ok := ok_p 123 rfl rfl
theorem mb_X12_findsWorth : Cond.initialized yX12_findsWorth.cls ∈ lw_ok ∧ Cond.code yX12_findsWorth cX12_findsWorth 3 none ∈ lw_ok ∧ (yX12_findsWorth.cls ≠ "java/lang/invoke/MethodHandle" ∧ yX12_findsWorth.cls ≠ "java/lang/invoke/VarHandle" ∧ (parseMethodDescriptor yX12_findsWorth.desc).map (fun d => d.parameters.length) = some 1) := ⟨ok_1 14 rfl rfl, ok_8 131 rfl rfl, by decide +kernel⟩
theorem mi_X12_findsWorth : Cond.instanceMethod yX12_findsWorth ∈ lw_ok := ok_8 130 rfl rfl
theorem mq_X12_findsWorth : Cond.selects yX12_findsWorth.cls yX12_findsWorth yX12_findsWorth ∈ lw_ok := ok_p 124 rfl rfl
theorem mb_X12_worthNow : Cond.initialized yX12_worthNow.cls ∈ lw_ok ∧ Cond.code yX12_worthNow cX12_worthNow 5 (some .int) ∈ lw_ok ∧ (yX12_worthNow.cls ≠ "java/lang/invoke/MethodHandle" ∧ yX12_worthNow.cls ≠ "java/lang/invoke/VarHandle" ∧ (parseMethodDescriptor yX12_worthNow.desc).map (fun d => d.parameters.length) = some 1) := ⟨ok_1 14 rfl rfl, ok_8 135 rfl rfl, by decide +kernel⟩
theorem mi_X12_worthNow : Cond.instanceMethod yX12_worthNow ∈ lw_ok := ok_8 134 rfl rfl
theorem mq_X12_worthNow : Cond.selects yX12_worthNow.cls yX12_worthNow yX12_worthNow ∈ lw_ok := ok_p 125 rfl rfl
theorem mb_X12_nextUp : Cond.initialized yX12_nextUp.cls ∈ lw_ok ∧ Cond.code yX12_nextUp cX12_nextUp 1 (some .int) ∈ lw_ok ∧ (yX12_nextUp.cls ≠ "java/lang/invoke/MethodHandle" ∧ yX12_nextUp.cls ≠ "java/lang/invoke/VarHandle" ∧ (parseMethodDescriptor yX12_nextUp.desc).map (fun d => d.parameters.length) = some 0) := ⟨ok_1 14 rfl rfl, ok_8 139 rfl rfl, by decide +kernel⟩
theorem mi_X12_nextUp : Cond.instanceMethod yX12_nextUp ∈ lw_ok := ok_8 138 rfl rfl
theorem mq_X12_nextUp : Cond.selects yX12_nextUp.cls yX12_nextUp yX12_nextUp ∈ lw_ok := ok_p 126 rfl rfl
theorem mb_X12_powerOf : Cond.initialized yX12_powerOf.cls ∈ lw_ok ∧ Cond.code yX12_powerOf cX12_powerOf 4 (some .int) ∈ lw_ok ∧ (yX12_powerOf.cls ≠ "java/lang/invoke/MethodHandle" ∧ yX12_powerOf.cls ≠ "java/lang/invoke/VarHandle" ∧ (parseMethodDescriptor yX12_powerOf.desc).map (fun d => d.parameters.length) = some 1) := ⟨ok_1 14 rfl rfl, ok_8 143 rfl rfl, by decide +kernel⟩
theorem mi_X12_powerOf : Cond.instanceMethod yX12_powerOf ∈ lw_ok := ok_8 142 rfl rfl
theorem mq_X12_powerOf : Cond.selects yX12_powerOf.cls yX12_powerOf yX12_powerOf ∈ lw_ok := ok_p 127 rfl rfl
theorem mb_X12_isOver : Cond.initialized yX12_isOver.cls ∈ lw_ok ∧ Cond.code yX12_isOver cX12_isOver 1 (some .boolean) ∈ lw_ok ∧ (yX12_isOver.cls ≠ "java/lang/invoke/MethodHandle" ∧ yX12_isOver.cls ≠ "java/lang/invoke/VarHandle" ∧ (parseMethodDescriptor yX12_isOver.desc).map (fun d => d.parameters.length) = some 0) := ⟨ok_1 14 rfl rfl, ok_8 147 rfl rfl, by decide +kernel⟩
theorem mi_X12_isOver : Cond.instanceMethod yX12_isOver ∈ lw_ok := ok_8 146 rfl rfl
theorem mq_X12_isOver : Cond.selects yX12_isOver.cls yX12_isOver yX12_isOver ∈ lw_ok := ok_p 128 rfl rfl
theorem mb_X12_image : Cond.initialized yX12_image.cls ∈ lw_ok ∧ Cond.code yX12_image cX12_image 3 (some .boolean) ∈ lw_ok ∧ (yX12_image.cls ≠ "java/lang/invoke/MethodHandle" ∧ yX12_image.cls ≠ "java/lang/invoke/VarHandle" ∧ (parseMethodDescriptor yX12_image.desc).map (fun d => d.parameters.length) = some 1) := ⟨ok_1 14 rfl rfl, ok_8 151 rfl rfl, by decide +kernel⟩
theorem mi_X12_image : Cond.instanceMethod yX12_image ∈ lw_ok := ok_8 149 rfl rfl
theorem mq_X12_image : Cond.selects yX12_image.cls yX12_image yX12_image ∈ lw_ok := ok_8 150 rfl rfl
theorem mb_X12_keeps : Cond.initialized yX12_keeps.cls ∈ lw_ok ∧ Cond.code yX12_keeps cX12_keeps 2 (some .int) ∈ lw_ok ∧ (yX12_keeps.cls ≠ "java/lang/invoke/MethodHandle" ∧ yX12_keeps.cls ≠ "java/lang/invoke/VarHandle" ∧ (parseMethodDescriptor yX12_keeps.desc).map (fun d => d.parameters.length) = some 1) := ⟨ok_1 14 rfl rfl, ok_8 155 rfl rfl, by decide +kernel⟩
theorem mi_X12_keeps : Cond.instanceMethod yX12_keeps ∈ lw_ok := ok_8 154 rfl rfl
theorem mq_X12_keeps : Cond.selects yX12_keeps.cls yX12_keeps yX12_keeps ∈ lw_ok := ok_p 129 rfl rfl
theorem mb_X12_keepsMany : Cond.initialized yX12_keepsMany.cls ∈ lw_ok ∧ Cond.code yX12_keepsMany cX12_keepsMany 1 none ∈ lw_ok ∧ (yX12_keepsMany.cls ≠ "java/lang/invoke/MethodHandle" ∧ yX12_keepsMany.cls ≠ "java/lang/invoke/VarHandle" ∧ (parseMethodDescriptor yX12_keepsMany.desc).map (fun d => d.parameters.length) = some 0) := ⟨ok_1 14 rfl rfl, ok_8 159 rfl rfl, by decide +kernel⟩
theorem mi_X12_keepsMany : Cond.instanceMethod yX12_keepsMany ∈ lw_ok := ok_8 158 rfl rfl
theorem mq_X12_keepsMany : Cond.selects yX12_keepsMany.cls yX12_keepsMany yX12_keepsMany ∈ lw_ok := ok_p 130 rfl rfl
theorem mb_X12_keepsTold : Cond.initialized yX12_keepsTold.cls ∈ lw_ok ∧ Cond.code yX12_keepsTold cX12_keepsTold 2 none ∈ lw_ok ∧ (yX12_keepsTold.cls ≠ "java/lang/invoke/MethodHandle" ∧ yX12_keepsTold.cls ≠ "java/lang/invoke/VarHandle" ∧ (parseMethodDescriptor yX12_keepsTold.desc).map (fun d => d.parameters.length) = some 0) := ⟨ok_1 14 rfl rfl, ok_8 163 rfl rfl, by decide +kernel⟩
theorem mi_X12_keepsTold : Cond.instanceMethod yX12_keepsTold ∈ lw_ok := ok_8 162 rfl rfl
theorem mq_X12_keepsTold : Cond.selects yX12_keepsTold.cls yX12_keepsTold yX12_keepsTold ∈ lw_ok := ok_p 131 rfl rfl
theorem mb_X12_keepsLaw : Cond.initialized yX12_keepsLaw.cls ∈ lw_ok ∧ Cond.code yX12_keepsLaw cX12_keepsLaw 2 none ∈ lw_ok ∧ (yX12_keepsLaw.cls ≠ "java/lang/invoke/MethodHandle" ∧ yX12_keepsLaw.cls ≠ "java/lang/invoke/VarHandle" ∧ (parseMethodDescriptor yX12_keepsLaw.desc).map (fun d => d.parameters.length) = some 0) := ⟨ok_1 14 rfl rfl, ok_8 167 rfl rfl, by decide +kernel⟩
theorem mi_X12_keepsLaw : Cond.instanceMethod yX12_keepsLaw ∈ lw_ok := ok_8 166 rfl rfl
theorem mq_X12_keepsLaw : Cond.selects yX12_keepsLaw.cls yX12_keepsLaw yX12_keepsLaw ∈ lw_ok := ok_p 132 rfl rfl
theorem mb_X12_look : Cond.initialized yX12_look.cls ∈ lw_ok ∧ Cond.code yX12_look cX12_look 2 (some .int) ∈ lw_ok ∧ (yX12_look.cls ≠ "java/lang/invoke/MethodHandle" ∧ yX12_look.cls ≠ "java/lang/invoke/VarHandle" ∧ (parseMethodDescriptor yX12_look.desc).map (fun d => d.parameters.length) = some 1) := ⟨ok_1 14 rfl rfl, ok_8 171 rfl rfl, by decide +kernel⟩
theorem mi_X12_look : Cond.instanceMethod yX12_look ∈ lw_ok := ok_8 169 rfl rfl
theorem mq_X12_look : Cond.selects yX12_look.cls yX12_look yX12_look ∈ lw_ok := ok_8 170 rfl rfl
