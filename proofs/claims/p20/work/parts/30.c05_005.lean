theorem dX3_read_36 : decode cX3_read 36 = .ok (.getfield 18, 3) := by decide +kernel
theorem dX3_read_39 : decode cX3_read 39 = .ok (.invokevirtual 44, 3) := by decide +kernel
theorem dX3_read_42 : decode cX3_read 42 = .ok (.ifCond .eq 5, 3) := by decide +kernel
theorem dX3_read_45 : decode cX3_read 45 = .ok (.iconst 1, 1) := by decide +kernel
theorem dX3_read_46 : decode cX3_read 46 = .ok (.ireturn, 1) := by decide +kernel
theorem dX3_read_47 : decode cX3_read 47 = .ok (.aload_n 0, 1) := by decide +kernel
theorem dX3_read_48 : decode cX3_read 48 = .ok (.getfield 18, 3) := by decide +kernel
theorem dX3_read_51 : decode cX3_read 51 = .ok (.bipush 59, 2) := by decide +kernel
theorem dX3_read_53 : decode cX3_read 53 = .ok (.invokevirtual 48, 3) := by decide +kernel
theorem dX3_read_56 : decode cX3_read 56 = .ok (.ifCond .ne 12, 3) := by decide +kernel
theorem dX3_read_59 : decode cX3_read 59 = .ok (.aload_n 0, 1) := by decide +kernel
theorem dX3_read_60 : decode cX3_read 60 = .ok (.getfield 18, 3) := by decide +kernel
theorem dX3_read_63 : decode cX3_read 63 = .ok (.iconst 0, 1) := by decide +kernel
theorem dX3_read_64 : decode cX3_read 64 = .ok (.invokevirtual 52, 3) := by decide +kernel
theorem dX3_read_67 : decode cX3_read 67 = .ok (.ireturn, 1) := by decide +kernel
theorem dX3_read_68 : decode cX3_read 68 = .ok (.iinc 1 1, 3) := by decide +kernel
theorem dX3_read_71 : decode cX3_read 71 = .ok (.goto (-52), 3) := by decide +kernel
theorem dX3_read_74 : decode cX3_read 74 = .ok (.iconst 0, 1) := by decide +kernel
theorem dX3_read_75 : decode cX3_read 75 = .ok (.ireturn, 1) := by decide +kernel
def wp_X3_read_19 (S : Sh) (post : Int → Mm → Prop) : Nat → Int → Int → Mm → Prop
  | 0, _, _, _ => False
  | n + 1, u0, u1, M => wC 12 fun v1 => wIf (v1 < u1) (wC 0 fun v3 => (v3 = 0 ∨ v3 = 1) ∧ post v3 M) (isK S u0 3 ∧ (wp_X3_readClause S M u0 u1 <| fun v6 M5 => wIf (¬ v6 = 0) (wGetR S M5 u0 3 0 fun v8 => isK S v8 7 ∧ (wp_X7_isAtEnd S M5 v8 <| fun v11 M10 => wIf (v11 = 0) (wGetR S M10 u0 3 0 fun v13 => wC 59 fun v15 => isK S v13 7 ∧ (wp_X7_takesSign S M10 v13 v15 <| fun v18 M17 => wIf (¬ v18 = 0) (wA u1 1 fun v20 => wp_X3_read_19 S post n u0 v20 M17) (wGetR S M17 u0 3 0 fun v22 => wC 0 fun v24 => isK S v22 7 ∧ (wp_X7_refuse S M17 v22 v24 <| fun v27 M26 => (v27 = 0 ∨ v27 = 1) ∧ post v27 M26)))) (wC 1 fun v29 => (v29 = 0 ∨ v29 = 1) ∧ post v29 M10))) (wC 0 fun v31 => (v31 = 0 ∨ v31 = 1) ∧ post v31 M5)))
