section
variable {L d c : Nat} {π : mj_P} {μ : mj_M} {Q : mj_Q}
theorem e_0 {v0 : Nat} : mj_call L d 0 [.inr (.inr v0)] c π μ Q = mj_go L d 0 0 [.inr (.inr v0)] [] c π μ Q := rfl
theorem o_0  : mj_aok 0 [.inr (.inr 12)] = true := rfl
theorem e_1 {v0 : Nat} {v1 : Int} : mj_call L d 1 [.inr (.inr v0), .inl v1] c π μ Q = mj_go L d 1 0 [.inr (.inr v0), .inl v1] [] c π μ Q := rfl
theorem o_1 {v1 : Int} : mj_aok 1 [.inr (.inr 12), .inl v1] = true := rfl
theorem e_2 {v0 : Nat} {v1 : Int} {v2 : Int} : mj_call L d 2 [.inr (.inr v0), .inl v1, .inl v2] c π μ Q = mj_go L d 2 0 [.inr (.inr v0), .inl v1, .inl v2] [] c π μ Q := rfl
theorem o_2 {v1 : Int} {v2 : Int} : mj_aok 2 [.inr (.inr 12), .inl v1, .inl v2] = true := rfl
theorem e_3 {v0 : Nat} {v1 : Int} {v2 : Int} {v3 : Int} {v4 : Int} : mj_call L d 3 [.inr (.inr v0), .inl v1, .inl v2, .inl v3, .inl v4] c π μ Q = mj_go L d 3 0 [.inr (.inr v0), .inl v1, .inl v2, .inl v3, .inl v4] [] c π μ Q := rfl
theorem o_3 {v1 : Int} {v2 : Int} {v3 : Int} {v4 : Int} : mj_aok 3 [.inr (.inr 12), .inl v1, .inl v2, .inl v3, .inl v4] = true := rfl
theorem e_4 {v0 : Nat} {v1 : Int} : mj_call L d 4 [.inr (.inr v0), .inl v1] c π μ Q = mj_go L d 4 0 [.inr (.inr v0), .inl v1] [] c π μ Q := rfl
theorem o_4 {v1 : Int} : mj_aok 4 [.inr (.inr 12), .inl v1] = true := rfl
theorem e_5 {v0 : Nat} {v1 : Int} : mj_call L d 5 [.inr (.inr v0), .inl v1] c π μ Q = mj_go L d 5 0 [.inr (.inr v0), .inl v1, mj_nul, mj_nul] [] c π μ Q := rfl
theorem o_5 {v1 : Int} : mj_aok 5 [.inr (.inr 12), .inl v1] = true := rfl
theorem e_6 {v0 : Nat} {v1 : Int} : mj_call L d 6 [.inr (.inr v0), .inl v1] c π μ Q = mj_go L d 6 0 [.inr (.inr v0), .inl v1, mj_nul, mj_nul] [] c π μ Q := rfl
theorem o_6 {v1 : Int} : mj_aok 6 [.inr (.inr 12), .inl v1] = true := rfl
theorem e_7 {v0 : Nat} {v1 : Int} : mj_call L d 7 [.inr (.inr v0), .inl v1] c π μ Q = mj_go L d 7 0 [.inr (.inr v0), .inl v1, mj_nul, mj_nul] [] c π μ Q := rfl
theorem o_7 {v1 : Int} : mj_aok 7 [.inr (.inr 12), .inl v1] = true := rfl
theorem e_8 {v0 : Nat} : mj_call L d 8 [.inr (.inr v0)] c π μ Q = mj_go L d 8 0 [.inr (.inr v0), mj_nul, mj_nul] [] c π μ Q := rfl
theorem o_8  : mj_aok 8 [.inr (.inr 12)] = true := rfl
theorem e_9 {v0 : Nat} {v1 : Int} : mj_call L d 9 [.inr (.inr v0), .inl v1] c π μ Q = mj_go L d 9 0 [.inr (.inr v0), .inl v1, mj_nul, mj_nul] [] c π μ Q := rfl
theorem o_9 {v1 : Int} : mj_aok 9 [.inr (.inr 12), .inl v1] = true := rfl
theorem e_10 {v0 : Nat} {v1 : Int} : mj_call L d 10 [.inr (.inr v0), .inl v1] c π μ Q = mj_go L d 10 0 [.inr (.inr v0), .inl v1] [] c π μ Q := rfl
theorem o_10 {v1 : Int} : mj_aok 10 [.inr (.inr 12), .inl v1] = true := rfl
theorem e_11 {v0 : Nat} {v1 : Int} {v2 : Int} : mj_call L d 11 [.inr (.inr v0), .inl v1, .inl v2] c π μ Q = mj_go L d 11 0 [.inr (.inr v0), .inl v1, .inl v2, mj_nul, mj_nul] [] c π μ Q := rfl
theorem o_11 {v1 : Int} {v2 : Int} : mj_aok 11 [.inr (.inr 12), .inl v1, .inl v2] = true := rfl
theorem e_12 {v0 : Nat} {v1 : Int} {v2 : Int} : mj_call L d 12 [.inr (.inr v0), .inl v1, .inl v2] c π μ Q = mj_go L d 12 0 [.inr (.inr v0), .inl v1, .inl v2, mj_nul] [] c π μ Q := rfl
theorem o_12 {v1 : Int} {v2 : Int} : mj_aok 12 [.inr (.inr 12), .inl v1, .inl v2] = true := rfl
theorem e_13 {v0 : Nat} {v1 : Int} : mj_call L d 13 [.inr (.inr v0), .inl v1] c π μ Q = mj_go L d 13 0 [.inr (.inr v0), .inl v1, mj_nul, mj_nul] [] c π μ Q := rfl
theorem o_13 {v1 : Int} : mj_aok 13 [.inr (.inr 12), .inl v1] = true := rfl
theorem e_14 {v0 : Nat} : mj_call L d 14 [.inr (.inr v0)] c π μ Q = mj_go L d 14 0 [.inr (.inr v0)] [] c π μ Q := rfl
theorem o_14  : mj_aok 14 [.inr (.inr 36)] = true := rfl
theorem e_15 {v0 : Nat} {v1 : Int} : mj_call L d 15 [.inr (.inr v0), .inl v1] c π μ Q = mj_go L d 15 0 [.inr (.inr v0), .inl v1] [] c π μ Q := rfl
theorem o_15 {v1 : Int} : mj_aok 15 [.inr (.inr 36), .inl v1] = true := rfl
theorem e_16 {v0 : Nat} {v1 : Int} {v2 : Int} {v3 : Int} {v4 : Int} {v5 : Int} : mj_call L d 16 [.inr (.inr v0), .inl v1, .inl v2, .inl v3, .inl v4, .inl v5] c π μ Q = mj_go L d 16 0 [.inr (.inr v0), .inl v1, .inl v2, .inl v3, .inl v4, .inl v5, mj_nul] [] c π μ Q := rfl
theorem o_16 {v1 : Int} {v2 : Int} {v3 : Int} {v4 : Int} {v5 : Int} : mj_aok 16 [.inr (.inr 36), .inl v1, .inl v2, .inl v3, .inl v4, .inl v5] = true := rfl
theorem e_17 {v0 : Nat} {v1 : Int} : mj_call L d 17 [.inr (.inr v0), .inl v1] c π μ Q = mj_go L d 17 0 [.inr (.inr v0), .inl v1] [] c π μ Q := rfl
theorem o_17 {v1 : Int} : mj_aok 17 [.inr (.inr 36), .inl v1] = true := rfl
theorem e_18 {v0 : Nat} {v1 : Int} {v2 : Int} : mj_call L d 18 [.inr (.inr v0), .inl v1, .inl v2] c π μ Q = mj_go L d 18 0 [.inr (.inr v0), .inl v1, .inl v2, mj_nul, mj_nul] [] c π μ Q := rfl
theorem o_18 {v1 : Int} {v2 : Int} : mj_aok 18 [.inr (.inr 36), .inl v1, .inl v2] = true := rfl
theorem e_19 {v0 : Nat} {v1 : Int} {v2 : Int} : mj_call L d 19 [.inr (.inr v0), .inl v1, .inl v2] c π μ Q = mj_go L d 19 0 [.inr (.inr v0), .inl v1, .inl v2, mj_nul, mj_nul] [] c π μ Q := rfl
theorem o_19 {v1 : Int} {v2 : Int} : mj_aok 19 [.inr (.inr 36), .inl v1, .inl v2] = true := rfl
theorem e_20 {v0 : Nat} : mj_call L d 20 [.inr (.inr v0)] c π μ Q = mj_go L d 20 0 [.inr (.inr v0)] [] c π μ Q := rfl
theorem o_20  : mj_aok 20 [.inr (.inr 4)] = true := rfl
theorem e_21 {v0 : Nat} {v1 : Int} {v2 : Int} : mj_call L d 21 [.inr (.inr v0), .inl v1, .inl v2] c π μ Q = mj_go L d 21 0 [.inr (.inr v0), .inl v1, .inl v2] [] c π μ Q := rfl
theorem o_21 {v1 : Int} {v2 : Int} : mj_aok 21 [.inr (.inr 4), .inl v1, .inl v2] = true := rfl
theorem e_22 {v0 : Nat} {v1 : Int} {v2 : Int} : mj_call L d 22 [.inr (.inr v0), .inl v1, .inl v2] c π μ Q = mj_go L d 22 0 [.inr (.inr v0), .inl v1, .inl v2, mj_nul, mj_nul] [] c π μ Q := rfl
theorem o_22 {v1 : Int} {v2 : Int} : mj_aok 22 [.inr (.inr 4), .inl v1, .inl v2] = true := rfl
theorem e_23 {v0 : Nat} {v1 : Int} {v2 : Int} : mj_call L d 23 [.inr (.inr v0), .inl v1, .inl v2] c π μ Q = mj_go L d 23 0 [.inr (.inr v0), .inl v1, .inl v2] [] c π μ Q := rfl
theorem o_23 {v1 : Int} {v2 : Int} : mj_aok 23 [.inr (.inr 4), .inl v1, .inl v2] = true := rfl
theorem e_24 {v0 : Nat} {v1 : Int} : mj_call L d 24 [.inr (.inr v0), .inl v1] c π μ Q = mj_go L d 24 0 [.inr (.inr v0), .inl v1] [] c π μ Q := rfl
theorem o_24 {v1 : Int} : mj_aok 24 [.inr (.inr 4), .inl v1] = true := rfl
theorem e_25 {v0 : Nat} {v1 : Int} : mj_call L d 25 [.inr (.inr v0), .inl v1] c π μ Q = mj_go L d 25 0 [.inr (.inr v0), .inl v1, mj_nul, mj_nul, mj_nul, mj_nul] [] c π μ Q := rfl
theorem o_25 {v1 : Int} : mj_aok 25 [.inr (.inr 4), .inl v1] = true := rfl
theorem e_26 {v0 : Nat} {v1 : Int} {v2 : Int} : mj_call L d 26 [.inr (.inr v0), .inl v1, .inl v2] c π μ Q = mj_go L d 26 0 [.inr (.inr v0), .inl v1, .inl v2, mj_nul] [] c π μ Q := rfl
theorem o_26 {v1 : Int} {v2 : Int} : mj_aok 26 [.inr (.inr 4), .inl v1, .inl v2] = true := rfl
theorem e_27 {v0 : Nat} {v1 : Int} {v2 : Int} : mj_call L d 27 [.inr (.inr v0), .inl v1, .inl v2] c π μ Q = mj_go L d 27 0 [.inr (.inr v0), .inl v1, .inl v2, mj_nul, mj_nul, mj_nul, mj_nul] [] c π μ Q := rfl
theorem o_27 {v1 : Int} {v2 : Int} : mj_aok 27 [.inr (.inr 4), .inl v1, .inl v2] = true := rfl
theorem e_28 {v0 : Nat} {v1 : Int} {v2 : Int} : mj_call L d 28 [.inr (.inr v0), .inl v1, .inl v2] c π μ Q = mj_go L d 28 0 [.inr (.inr v0), .inl v1, .inl v2, mj_nul] [] c π μ Q := rfl
theorem o_28 {v1 : Int} {v2 : Int} : mj_aok 28 [.inr (.inr 4), .inl v1, .inl v2] = true := rfl
theorem e_29 {v0 : Nat} : mj_call L d 29 [.inr (.inr v0)] c π μ Q = mj_go L d 29 0 [.inr (.inr v0), mj_nul, mj_nul] [] c π μ Q := rfl
theorem o_29  : mj_aok 29 [.inr (.inr 4)] = true := rfl
theorem e_30 {v0 : Nat} : mj_call L d 30 [.inr (.inr v0)] c π μ Q = mj_go L d 30 0 [.inr (.inr v0), mj_nul, mj_nul] [] c π μ Q := rfl
theorem o_30  : mj_aok 30 [.inr (.inr 4)] = true := rfl
theorem e_31 {v0 : Nat} {v1 : Int} : mj_call L d 31 [.inr (.inr v0), .inl v1] c π μ Q = mj_go L d 31 0 [.inr (.inr v0), .inl v1, mj_nul, mj_nul] [] c π μ Q := rfl
theorem o_31 {v1 : Int} : mj_aok 31 [.inr (.inr 4), .inl v1] = true := rfl
theorem e_32 {v0 : Nat} {v1 : Int} {v2 : Int} : mj_call L d 32 [.inr (.inr v0), .inl v1, .inl v2] c π μ Q = mj_go L d 32 0 [.inr (.inr v0), .inl v1, .inl v2] [] c π μ Q := rfl
theorem o_32 {v1 : Int} {v2 : Int} : mj_aok 32 [.inr (.inr 4), .inl v1, .inl v2] = true := rfl
theorem e_33 {v0 : Nat} {v1 : Int} : mj_call L d 33 [.inr (.inr v0), .inl v1] c π μ Q = mj_go L d 33 0 [.inr (.inr v0), .inl v1, mj_nul] [] c π μ Q := rfl
theorem o_33 {v1 : Int} : mj_aok 33 [.inr (.inr 4), .inl v1] = true := rfl
theorem e_34 {v0 : Nat} {v1 : Int} : mj_call L d 34 [.inr (.inr v0), .inl v1] c π μ Q = mj_go L d 34 0 [.inr (.inr v0), .inl v1] [] c π μ Q := rfl
theorem o_34 {v1 : Int} : mj_aok 34 [.inr (.inr 4), .inl v1] = true := rfl
theorem e_35 {v0 : Nat} {v1 : Int} : mj_call L d 35 [.inr (.inr v0), .inl v1] c π μ Q = mj_go L d 35 0 [.inr (.inr v0), .inl v1, mj_nul] [] c π μ Q := rfl
theorem o_35 {v1 : Int} : mj_aok 35 [.inr (.inr 4), .inl v1] = true := rfl
theorem e_36 {v0 : Nat} {v1 : Int} : mj_call L d 36 [.inr (.inr v0), .inl v1] c π μ Q = mj_go L d 36 0 [.inr (.inr v0), .inl v1] [] c π μ Q := rfl
theorem o_36 {v1 : Int} : mj_aok 36 [.inr (.inr 4), .inl v1] = true := rfl
theorem e_37 {v0 : Nat} : mj_call L d 37 [.inr (.inr v0)] c π μ Q = mj_go L d 37 0 [.inr (.inr v0)] [] c π μ Q := rfl
theorem o_37  : mj_aok 37 [.inr (.inr 18)] = true := rfl
theorem e_38 {v0 : Nat} {v1 : Int} : mj_call L d 38 [.inr (.inr v0), .inl v1] c π μ Q = mj_go L d 38 0 [.inr (.inr v0), .inl v1] [] c π μ Q := rfl
theorem o_38 {v1 : Int} : mj_aok 38 [.inr (.inr 18), .inl v1] = true := rfl
theorem e_39 {v0 : Nat} {v1 : Int} {v2 : Int} : mj_call L d 39 [.inr (.inr v0), .inl v1, .inl v2] c π μ Q = mj_go L d 39 0 [.inr (.inr v0), .inl v1, .inl v2] [] c π μ Q := rfl
theorem o_39 {v1 : Int} {v2 : Int} : mj_aok 39 [.inr (.inr 18), .inl v1, .inl v2] = true := rfl
theorem e_40 {v0 : Nat} {v1 : Int} {v2 : Int} {v3 : Int} : mj_call L d 40 [.inr (.inr v0), .inl v1, .inl v2, .inl v3] c π μ Q = mj_go L d 40 0 [.inr (.inr v0), .inl v1, .inl v2, .inl v3] [] c π μ Q := rfl
theorem o_40 {v1 : Int} {v2 : Int} {v3 : Int} : mj_aok 40 [.inr (.inr 18), .inl v1, .inl v2, .inl v3] = true := rfl
theorem e_41 {v0 : Nat} {v1 : Int} : mj_call L d 41 [.inr (.inr v0), .inl v1] c π μ Q = mj_go L d 41 0 [.inr (.inr v0), .inl v1, mj_nul, mj_nul] [] c π μ Q := rfl
theorem o_41 {v1 : Int} : mj_aok 41 [.inr (.inr 18), .inl v1] = true := rfl
theorem e_42 {v0 : Nat} : mj_call L d 42 [.inr (.inr v0)] c π μ Q = mj_go L d 42 0 [.inr (.inr v0)] [] c π μ Q := rfl
theorem o_42  : mj_aok 42 [.inr (.inr 42)] = true := rfl
theorem e_43 {v0 : Nat} {v1 : Int} {v2 : Int} : mj_call L d 43 [.inr (.inr v0), .inl v1, .inl v2] c π μ Q = mj_go L d 43 0 [.inr (.inr v0), .inl v1, .inl v2] [] c π μ Q := rfl
theorem o_43 {v1 : Int} {v2 : Int} : mj_aok 43 [.inr (.inr 42), .inl v1, .inl v2] = true := rfl
theorem e_44 {v0 : Nat} {v1 : Int} {v2 : Int} : mj_call L d 44 [.inr (.inr v0), .inl v1, .inl v2] c π μ Q = mj_go L d 44 0 [.inr (.inr v0), .inl v1, .inl v2] [] c π μ Q := rfl
theorem o_44 {v1 : Int} {v2 : Int} : mj_aok 44 [.inr (.inr 42), .inl v1, .inl v2] = true := rfl
theorem e_45 {v0 : Nat} {v1 : Int} {v2 : Int} {v3 : Int} {v4 : Int} : mj_call L d 45 [.inr (.inr v0), .inl v1, .inl v2, .inl v3, .inl v4] c π μ Q = mj_go L d 45 0 [.inr (.inr v0), .inl v1, .inl v2, .inl v3, .inl v4, mj_nul] [] c π μ Q := rfl
theorem o_45 {v1 : Int} {v2 : Int} {v3 : Int} {v4 : Int} : mj_aok 45 [.inr (.inr 42), .inl v1, .inl v2, .inl v3, .inl v4] = true := rfl
theorem e_46 {v0 : Nat} : mj_call L d 46 [.inr (.inr v0)] c π μ Q = mj_go L d 46 0 [.inr (.inr v0), mj_nul, mj_nul] [] c π μ Q := rfl
theorem o_46  : mj_aok 46 [.inr (.inr 42)] = true := rfl
theorem e_47 {v0 : Nat} : mj_call L d 47 [.inr (.inr v0)] c π μ Q = mj_go L d 47 0 [.inr (.inr v0), mj_nul, mj_nul, mj_nul, mj_nul] [] c π μ Q := rfl
theorem o_47  : mj_aok 47 [.inr (.inr 42)] = true := rfl
theorem e_48 {v0 : Nat} : mj_call L d 48 [.inr (.inr v0)] c π μ Q = mj_go L d 48 0 [.inr (.inr v0), mj_nul, mj_nul, mj_nul, mj_nul] [] c π μ Q := rfl
theorem o_48  : mj_aok 48 [.inr (.inr 42)] = true := rfl
theorem e_49 {v0 : Nat} {v1 : Int} {v2 : Int} {v3 : Int} : mj_call L d 49 [.inr (.inr v0), .inl v1, .inl v2, .inl v3] c π μ Q = mj_go L d 49 0 [.inr (.inr v0), .inl v1, .inl v2, .inl v3, mj_nul] [] c π μ Q := rfl
theorem o_49 {v1 : Int} {v2 : Int} {v3 : Int} : mj_aok 49 [.inr (.inr 42), .inl v1, .inl v2, .inl v3] = true := rfl
theorem e_50 {v0 : Nat} {v1 : Int} {v2 : Int} {v3 : Int} : mj_call L d 50 [.inr (.inr v0), .inl v1, .inl v2, .inl v3] c π μ Q = mj_go L d 50 0 [.inr (.inr v0), .inl v1, .inl v2, .inl v3, mj_nul] [] c π μ Q := rfl
theorem o_50 {v1 : Int} {v2 : Int} {v3 : Int} : mj_aok 50 [.inr (.inr 42), .inl v1, .inl v2, .inl v3] = true := rfl
theorem e_51 {v0 : Nat} {v1 : Int} : mj_call L d 51 [.inr (.inr v0), .inl v1] c π μ Q = mj_go L d 51 0 [.inr (.inr v0), .inl v1, mj_nul, mj_nul, mj_nul] [] c π μ Q := rfl
theorem o_51 {v1 : Int} : mj_aok 51 [.inr (.inr 42), .inl v1] = true := rfl
theorem e_52 {v0 : Nat} : mj_call L d 52 [.inr (.inr v0)] c π μ Q = mj_go L d 52 0 [.inr (.inr v0)] [] c π μ Q := rfl
theorem o_52  : mj_aok 52 [.inr (.inr 52)] = true := rfl
theorem e_53 {v0 : Nat} {v1 : Int} {v2 : Int} {v3 : Int} {v4 : Int} : mj_call L d 53 [.inr (.inr v0), .inl v1, .inl v2, .inl v3, .inl v4] c π μ Q = mj_go L d 53 0 [.inr (.inr v0), .inl v1, .inl v2, .inl v3, .inl v4, mj_nul] [] c π μ Q := rfl
theorem o_53 {v1 : Int} {v2 : Int} {v3 : Int} {v4 : Int} : mj_aok 53 [.inr (.inr 52), .inl v1, .inl v2, .inl v3, .inl v4] = true := rfl
theorem e_54 {v0 : Nat} {v1 : Int} {v2 : Int} : mj_call L d 54 [.inr (.inr v0), .inl v1, .inl v2] c π μ Q = mj_go L d 54 0 [.inr (.inr v0), .inl v1, .inl v2] [] c π μ Q := rfl
theorem o_54 {v1 : Int} {v2 : Int} : mj_aok 54 [.inr (.inr 52), .inl v1, .inl v2] = true := rfl
theorem e_55 {v0 : Nat} : mj_call L d 55 [.inr (.inr v0)] c π μ Q = mj_go L d 55 0 [.inr (.inr v0)] [] c π μ Q := rfl
theorem o_55  : mj_aok 55 [.inr (.inr 52)] = true := rfl
theorem e_56 {v0 : Nat} : mj_call L d 56 [.inr (.inr v0)] c π μ Q = mj_go L d 56 0 [.inr (.inr v0), mj_nul, mj_nul] [] c π μ Q := rfl
theorem o_56  : mj_aok 56 [.inr (.inr 52)] = true := rfl
theorem e_57 {v0 : Nat} : mj_call L d 57 [.inr (.inr v0)] c π μ Q = mj_go L d 57 0 [.inr (.inr v0), mj_nul, mj_nul] [] c π μ Q := rfl
theorem o_57  : mj_aok 57 [.inr (.inr 52)] = true := rfl
theorem e_58 {v0 : Nat} {v1 : Int} : mj_call L d 58 [.inr (.inr v0), .inl v1] c π μ Q = mj_go L d 58 0 [.inr (.inr v0), .inl v1] [] c π μ Q := rfl
theorem o_58 {v1 : Int} : mj_aok 58 [.inr (.inr 52), .inl v1] = true := rfl
theorem e_59 {v0 : Nat} : mj_call L d 59 [.inr (.inr v0)] c π μ Q = mj_go L d 59 0 [.inr (.inr v0), mj_nul, mj_nul, mj_nul] [] c π μ Q := rfl
theorem o_59  : mj_aok 59 [.inr (.inr 52)] = true := rfl
theorem e_60 {v0 : Nat} {v1 : Int} {v2 : Int} : mj_call L d 60 [.inr (.inr v0), .inl v1, .inl v2] c π μ Q = mj_go L d 60 0 [.inr (.inr v0), .inl v1, .inl v2] [] c π μ Q := rfl
theorem o_60 {v1 : Int} {v2 : Int} : mj_aok 60 [.inr (.inr 52), .inl v1, .inl v2] = true := rfl
theorem e_61 {v0 : Nat} {v1 : Int} {v2 : Int} : mj_call L d 61 [.inr (.inr v0), .inl v1, .inl v2] c π μ Q = mj_go L d 61 0 [.inr (.inr v0), .inl v1, .inl v2, mj_nul, mj_nul, mj_nul, mj_nul] [] c π μ Q := rfl
theorem o_61 {v1 : Int} {v2 : Int} : mj_aok 61 [.inr (.inr 52), .inl v1, .inl v2] = true := rfl
theorem e_62 {v0 : Nat} {v1 : Int} {v2 : Int} {v3 : Int} : mj_call L d 62 [.inr (.inr v0), .inl v1, .inl v2, .inl v3] c π μ Q = mj_go L d 62 0 [.inr (.inr v0), .inl v1, .inl v2, .inl v3] [] c π μ Q := rfl
theorem o_62 {v1 : Int} {v2 : Int} {v3 : Int} : mj_aok 62 [.inr (.inr 52), .inl v1, .inl v2, .inl v3] = true := rfl
theorem e_63 {v0 : Nat} {v1 : Int} {v2 : Int} {v3 : Int} : mj_call L d 63 [.inr (.inr v0), .inl v1, .inl v2, .inl v3] c π μ Q = mj_go L d 63 0 [.inr (.inr v0), .inl v1, .inl v2, .inl v3, mj_nul] [] c π μ Q := rfl
theorem o_63 {v0 : Nat} {v1 : Int} {v2 : Int} {v3 : Int} : mj_aok 63 [.inr (.inr v0), .inl v1, .inl v2, .inl v3] = true := rfl
theorem e_64 {v0 : Nat} {v1 : Int} {v2 : Int} {v3 : Int} : mj_call L d 64 [.inr (.inr v0), .inl v1, .inl v2, .inl v3] c π μ Q = mj_go L d 64 0 [.inr (.inr v0), .inl v1, .inl v2, .inl v3] [] c π μ Q := rfl
theorem o_64 {v0 : Nat} {v1 : Int} {v2 : Int} {v3 : Int} : mj_aok 64 [.inr (.inr v0), .inl v1, .inl v2, .inl v3] = true := rfl
theorem e_65 {v0 : Nat} : mj_call L d 65 [.inr (.inr v0)] c π μ Q = mj_go L d 65 0 [.inr (.inr v0)] [] c π μ Q := rfl
theorem o_65  : mj_aok 65 [.inr (.inr 23)] = true := rfl
theorem e_66 {v0 : Nat} {v1 : Int} : mj_call L d 66 [.inr (.inr v0), .inl v1] c π μ Q = mj_go L d 66 0 [.inr (.inr v0), .inl v1] [] c π μ Q := rfl
theorem o_66 {v1 : Int} : mj_aok 66 [.inr (.inr 23), .inl v1] = true := rfl
theorem e_67 {v0 : Nat} {v1 : Int} {v2 : Int} {v3 : Int} : mj_call L d 67 [.inr (.inr v0), .inl v1, .inl v2, .inl v3] c π μ Q = mj_go L d 67 0 [.inr (.inr v0), .inl v1, .inl v2, .inl v3] [] c π μ Q := rfl
theorem o_67 {v1 : Int} {v2 : Int} {v3 : Int} : mj_aok 67 [.inr (.inr 23), .inl v1, .inl v2, .inl v3] = true := rfl
theorem e_68 {v0 : Nat} {v1 : Int} {v2 : Int} : mj_call L d 68 [.inr (.inr v0), .inl v1, .inl v2] c π μ Q = mj_go L d 68 0 [.inr (.inr v0), .inl v1, .inl v2, mj_nul] [] c π μ Q := rfl
theorem o_68 {v1 : Int} {v2 : Int} : mj_aok 68 [.inr (.inr 23), .inl v1, .inl v2] = true := rfl
theorem e_69 {v0 : Nat} {v1 : Int} : mj_call L d 69 [.inr (.inr v0), .inl v1] c π μ Q = mj_go L d 69 0 [.inr (.inr v0), .inl v1, mj_nul, mj_nul] [] c π μ Q := rfl
theorem o_69 {v1 : Int} : mj_aok 69 [.inr (.inr 23), .inl v1] = true := rfl
theorem e_70 {v0 : Nat} {v1 : Int} : mj_call L d 70 [.inr (.inr v0), .inl v1] c π μ Q = mj_go L d 70 0 [.inr (.inr v0), .inl v1, mj_nul, mj_nul] [] c π μ Q := rfl
theorem o_70 {v1 : Int} : mj_aok 70 [.inr (.inr 23), .inl v1] = true := rfl
theorem e_71 {v0 : Nat} : mj_call L d 71 [.inr (.inr v0)] c π μ Q = mj_go L d 71 0 [.inr (.inr v0), mj_nul, mj_nul] [] c π μ Q := rfl
theorem o_71  : mj_aok 71 [.inr (.inr 23)] = true := rfl
theorem e_72 {v0 : Nat} : mj_call L d 72 [.inr (.inr v0)] c π μ Q = mj_go L d 72 0 [.inr (.inr v0)] [] c π μ Q := rfl
theorem o_72  : mj_aok 72 [.inr (.inr 31)] = true := rfl
theorem o_72'  : mj_aok 72 [.inr (.inr 62)] = true := rfl
theorem e_73 {v0 : Nat} : mj_call L d 73 [.inr (.inr v0)] c π μ Q = mj_go L d 73 0 [.inr (.inr v0), mj_nul] [] c π μ Q := rfl
theorem o_73  : mj_aok 73 [.inr (.inr 31)] = true := rfl
theorem o_73'  : mj_aok 73 [.inr (.inr 62)] = true := rfl
theorem e_74 {v0 : Nat} {v1 : Int} : mj_call L d 74 [.inr (.inr v0), .inl v1] c π μ Q = mj_go L d 74 0 [.inr (.inr v0), .inl v1, mj_nul] [] c π μ Q := rfl
theorem o_74 {v1 : Int} : mj_aok 74 [.inr (.inr 31), .inl v1] = true := rfl
theorem o_74' {v1 : Int} : mj_aok 74 [.inr (.inr 62), .inl v1] = true := rfl
theorem e_75 {v0 : Nat} {v1 : Int} {v2 : Int} : mj_call L d 75 [.inr (.inr v0), .inl v1, .inl v2] c π μ Q = mj_go L d 75 0 [.inr (.inr v0), .inl v1, .inl v2] [] c π μ Q := rfl
theorem o_75 {v1 : Int} {v2 : Int} : mj_aok 75 [.inr (.inr 31), .inl v1, .inl v2] = true := rfl
theorem o_75' {v1 : Int} {v2 : Int} : mj_aok 75 [.inr (.inr 62), .inl v1, .inl v2] = true := rfl
theorem e_76 {v0 : Nat} {v1 : Int} {v2 : Int} : mj_call L d 76 [.inr (.inr v0), .inl v1, .inl v2] c π μ Q = mj_go L d 76 0 [.inr (.inr v0), .inl v1, .inl v2] [] c π μ Q := rfl
theorem o_76 {v1 : Int} {v2 : Int} : mj_aok 76 [.inr (.inr 31), .inl v1, .inl v2] = true := rfl
theorem o_76' {v1 : Int} {v2 : Int} : mj_aok 76 [.inr (.inr 62), .inl v1, .inl v2] = true := rfl
theorem e_77 {v0 : Nat} : mj_call L d 77 [.inr (.inr v0)] c π μ Q = mj_go L d 77 0 [.inr (.inr v0)] [] c π μ Q := rfl
theorem o_77  : mj_aok 77 [.inr (.inr 58)] = true := rfl
theorem e_78 {v0 : Nat} {v1 : Int} {v2 : Int} {v3 : Int} : mj_call L d 78 [.inr (.inr v0), .inl v1, .inl v2, .inl v3] c π μ Q = mj_go L d 78 0 [.inr (.inr v0), .inl v1, .inl v2, .inl v3, mj_nul] [] c π μ Q := rfl
theorem o_78 {v1 : Int} {v2 : Int} {v3 : Int} : mj_aok 78 [.inr (.inr 58), .inl v1, .inl v2, .inl v3] = true := rfl
theorem e_79 {v0 : Nat} {v1 : Int} {v2 : Int} {v3 : Int} : mj_call L d 79 [.inr (.inr v0), .inl v1, .inl v2, .inl v3] c π μ Q = mj_go L d 79 0 [.inr (.inr v0), .inl v1, .inl v2, .inl v3] [] c π μ Q := rfl
theorem o_79 {v1 : Int} {v2 : Int} {v3 : Int} : mj_aok 79 [.inr (.inr 58), .inl v1, .inl v2, .inl v3] = true := rfl
theorem e_80 {v0 : Nat} {v1 : Int} {v2 : Int} {v3 : Int} {v4 : Int} : mj_call L d 80 [.inr (.inr v0), .inl v1, .inl v2, .inl v3, .inl v4] c π μ Q = mj_go L d 80 0 [.inr (.inr v0), .inl v1, .inl v2, .inl v3, .inl v4, mj_nul] [] c π μ Q := rfl
theorem o_80 {v1 : Int} {v2 : Int} {v3 : Int} {v4 : Int} : mj_aok 80 [.inr (.inr 58), .inl v1, .inl v2, .inl v3, .inl v4] = true := rfl
theorem e_81 {v0 : Nat} {v1 : Int} {v2 : Int} : mj_call L d 81 [.inr (.inr v0), .inl v1, .inl v2] c π μ Q = mj_go L d 81 0 [.inr (.inr v0), .inl v1, .inl v2] [] c π μ Q := rfl
theorem o_81 {v1 : Int} {v2 : Int} : mj_aok 81 [.inr (.inr 58), .inl v1, .inl v2] = true := rfl
theorem e_82 {v0 : Nat} {v1 : Int} {v2 : Int} : mj_call L d 82 [.inr (.inr v0), .inl v1, .inl v2] c π μ Q = mj_go L d 82 0 [.inr (.inr v0), .inl v1, .inl v2] [] c π μ Q := rfl
theorem o_82 {v1 : Int} {v2 : Int} : mj_aok 82 [.inr (.inr 58), .inl v1, .inl v2] = true := rfl
theorem e_83 {v0 : Int} {v1 : Int} : mj_call L d 83 [.inl v0, .inl v1] c π μ Q = mj_go L d 83 0 [.inl v0, .inl v1] [] c π μ Q := rfl
theorem o_83 {v0 : Int} {v1 : Int} : mj_aok 83 [.inl v0, .inl v1] = true := rfl
theorem e_84 {v0 : Nat} : mj_call L d 84 [.inr (.inr v0)] c π μ Q = mj_go L d 84 0 [.inr (.inr v0)] [] c π μ Q := rfl
theorem o_84  : mj_aok 84 [.inr (.inr 2)] = true := rfl
theorem e_85 {v0 : Nat} {v1 : Int} : mj_call L d 85 [.inr (.inr v0), .inr (.inl v1)] c π μ Q = mj_go L d 85 0 [.inr (.inr v0), .inr (.inl v1), mj_nul, mj_nul] [] c π μ Q := rfl
theorem o_85 {v1 : Int} : mj_aok 85 [.inr (.inr 2), .inr (.inl v1)] = true := rfl
theorem e_86 {v0 : Nat} {v1 : Int} : mj_call L d 86 [.inr (.inr v0), .inl v1] c π μ Q = mj_go L d 86 0 [.inr (.inr v0), .inl v1, mj_nul] [] c π μ Q := rfl
theorem o_86 {v1 : Int} : mj_aok 86 [.inr (.inr 2), .inl v1] = true := rfl
theorem e_87 {v0 : Nat} {v1 : Nat} : mj_call L d 87 [.inr (.inr v0), .inr (.inr v1)] c π μ Q = mj_go L d 87 0 [.inr (.inr v0), .inr (.inr v1), mj_nul, mj_nul] [] c π μ Q := rfl
theorem o_87 {v1 : Nat} : mj_aok 87 [.inr (.inr 2), .inr (.inr v1)] = true := rfl
theorem e_88 {v0 : Nat} : mj_call L d 88 [.inr (.inr v0)] c π μ Q = mj_go L d 88 0 [.inr (.inr v0), mj_nul, mj_nul] [] c π μ Q := rfl
theorem o_88  : mj_aok 88 [.inr (.inr 2)] = true := rfl
theorem e_89 {v0 : Nat} : mj_call L d 89 [.inr (.inr v0)] c π μ Q = mj_go L d 89 0 [.inr (.inr v0), mj_nul, mj_nul, mj_nul] [] c π μ Q := rfl
theorem o_89  : mj_aok 89 [.inr (.inr 2)] = true := rfl
theorem e_90 {v0 : Nat} : mj_call L d 90 [.inr (.inr v0)] c π μ Q = mj_go L d 90 0 [.inr (.inr v0), mj_nul, mj_nul, mj_nul] [] c π μ Q := rfl
theorem o_90  : mj_aok 90 [.inr (.inr 2)] = true := rfl
theorem e_91 {v0 : Nat} {v1 : Int} : mj_call L d 91 [.inr (.inr v0), .inl v1] c π μ Q = mj_go L d 91 0 [.inr (.inr v0), .inl v1] [] c π μ Q := rfl
theorem o_91 {v1 : Int} : mj_aok 91 [.inr (.inr 2), .inl v1] = true := rfl
theorem e_92 {v0 : Nat} {v1 : Int} {v2 : Int} : mj_call L d 92 [.inr (.inr v0), .inl v1, .inl v2] c π μ Q = mj_go L d 92 0 [.inr (.inr v0), .inl v1, .inl v2] [] c π μ Q := rfl
theorem o_92 {v1 : Int} {v2 : Int} : mj_aok 92 [.inr (.inr 2), .inl v1, .inl v2] = true := rfl
theorem e_93 {v0 : Nat} {v1 : Int} {v2 : Int} : mj_call L d 93 [.inr (.inr v0), .inl v1, .inl v2] c π μ Q = mj_go L d 93 0 [.inr (.inr v0), .inl v1, .inl v2] [] c π μ Q := rfl
theorem o_93 {v1 : Int} {v2 : Int} : mj_aok 93 [.inr (.inr 2), .inl v1, .inl v2] = true := rfl
theorem e_94 {v0 : Nat} : mj_call L d 94 [.inr (.inr v0)] c π μ Q = mj_go L d 94 0 [.inr (.inr v0), mj_nul] [] c π μ Q := rfl
theorem o_94  : mj_aok 94 [.inr (.inr 2)] = true := rfl
theorem e_95 {v0 : Int} : mj_call L d 95 [.inl v0] c π μ Q = mj_go L d 95 0 [.inl v0] [] c π μ Q := rfl
theorem o_95 {v0 : Int} : mj_aok 95 [.inl v0] = true := rfl
theorem e_96 {v0 : Int} : mj_call L d 96 [.inl v0] c π μ Q = mj_go L d 96 0 [.inl v0] [] c π μ Q := rfl
theorem o_96 {v0 : Int} : mj_aok 96 [.inl v0] = true := rfl
theorem e_97 {v0 : Nat} : mj_call L d 97 [.inr (.inr v0)] c π μ Q = mj_go L d 97 0 [.inr (.inr v0), mj_nul, mj_nul, mj_nul, mj_nul, mj_nul] [] c π μ Q := rfl
theorem o_97  : mj_aok 97 [.inr (.inr 2)] = true := rfl
theorem e_98 {v0 : Nat} : mj_call L d 98 [.inr (.inr v0)] c π μ Q = mj_go L d 98 0 [.inr (.inr v0), mj_nul] [] c π μ Q := rfl
theorem o_98  : mj_aok 98 [.inr (.inr 2)] = true := rfl
theorem e_99 {v0 : Nat} : mj_call L d 99 [.inr (.inr v0)] c π μ Q = mj_go L d 99 0 [.inr (.inr v0)] [] c π μ Q := rfl
theorem o_99  : mj_aok 99 [.inr (.inr 5)] = true := rfl
theorem e_100 {v0 : Nat} {v1 : Int} : mj_call L d 100 [.inr (.inr v0), .inl v1] c π μ Q = mj_go L d 100 0 [.inr (.inr v0), .inl v1] [] c π μ Q := rfl
theorem o_100 {v1 : Int} : mj_aok 100 [.inr (.inr 5), .inl v1] = true := rfl
theorem e_101 {v0 : Nat} {v1 : Int} : mj_call L d 101 [.inr (.inr v0), .inl v1] c π μ Q = mj_go L d 101 0 [.inr (.inr v0), .inl v1] [] c π μ Q := rfl
theorem o_101 {v1 : Int} : mj_aok 101 [.inr (.inr 5), .inl v1] = true := rfl
theorem e_102 {v0 : Nat} {v1 : Int} {v2 : Int} : mj_call L d 102 [.inr (.inr v0), .inl v1, .inl v2] c π μ Q = mj_go L d 102 0 [.inr (.inr v0), .inl v1, .inl v2] [] c π μ Q := rfl
theorem o_102 {v1 : Int} {v2 : Int} : mj_aok 102 [.inr (.inr 5), .inl v1, .inl v2] = true := rfl
theorem e_103 {v0 : Nat} {v1 : Int} : mj_call L d 103 [.inr (.inr v0), .inl v1] c π μ Q = mj_go L d 103 0 [.inr (.inr v0), .inl v1] [] c π μ Q := rfl
theorem o_103 {v1 : Int} : mj_aok 103 [.inr (.inr 5), .inl v1] = true := rfl
theorem e_104 {v0 : Nat} {v1 : Int} {v2 : Int} {v3 : Int} : mj_call L d 104 [.inr (.inr v0), .inl v1, .inl v2, .inl v3] c π μ Q = mj_go L d 104 0 [.inr (.inr v0), .inl v1, .inl v2, .inl v3] [] c π μ Q := rfl
theorem o_104 {v1 : Int} {v2 : Int} {v3 : Int} : mj_aok 104 [.inr (.inr 5), .inl v1, .inl v2, .inl v3] = true := rfl
theorem e_105 {v0 : Nat} {v1 : Int} {v2 : Int} : mj_call L d 105 [.inr (.inr v0), .inl v1, .inl v2] c π μ Q = mj_go L d 105 0 [.inr (.inr v0), .inl v1, .inl v2] [] c π μ Q := rfl
theorem o_105 {v1 : Int} {v2 : Int} : mj_aok 105 [.inr (.inr 5), .inl v1, .inl v2] = true := rfl
theorem e_106 {v0 : Nat} {v1 : Int} : mj_call L d 106 [.inr (.inr v0), .inl v1] c π μ Q = mj_go L d 106 0 [.inr (.inr v0), .inl v1, mj_nul, mj_nul] [] c π μ Q := rfl
theorem o_106 {v1 : Int} : mj_aok 106 [.inr (.inr 5), .inl v1] = true := rfl
theorem e_107 {v0 : Nat} : mj_call L d 107 [.inr (.inr v0)] c π μ Q = mj_go L d 107 0 [.inr (.inr v0)] [] c π μ Q := rfl
theorem o_107  : mj_aok 107 [.inr (.inr 1)] = true := rfl
theorem e_108 {v0 : Nat} {v1 : Int} : mj_call L d 108 [.inr (.inr v0), .inr (.inl v1)] c π μ Q = mj_go L d 108 0 [.inr (.inr v0), .inr (.inl v1), mj_nul] [] c π μ Q := rfl
theorem o_108 {v1 : Int} : mj_aok 108 [.inr (.inr 1), .inr (.inl v1)] = true := rfl
theorem e_109 {v0 : Nat} {v1 : Int} : mj_call L d 109 [.inr (.inr v0), .inl v1] c π μ Q = mj_go L d 109 0 [.inr (.inr v0), .inl v1] [] c π μ Q := rfl
theorem o_109 {v1 : Int} : mj_aok 109 [.inr (.inr 1), .inl v1] = true := rfl
theorem e_110 {v0 : Nat} : mj_call L d 110 [.inr (.inr v0)] c π μ Q = mj_go L d 110 0 [.inr (.inr v0), mj_nul, mj_nul] [] c π μ Q := rfl
theorem o_110  : mj_aok 110 [.inr (.inr 1)] = true := rfl
theorem e_111 {v0 : Nat} : mj_call L d 111 [.inr (.inr v0)] c π μ Q = mj_go L d 111 0 [.inr (.inr v0)] [] c π μ Q := rfl
theorem o_111  : mj_aok 111 [.inr (.inr 1)] = true := rfl
theorem e_112 {v0 : Nat} {v1 : Int} : mj_call L d 112 [.inr (.inr v0), .inl v1] c π μ Q = mj_go L d 112 0 [.inr (.inr v0), .inl v1, mj_nul] [] c π μ Q := rfl
theorem o_112 {v1 : Int} : mj_aok 112 [.inr (.inr 1), .inl v1] = true := rfl
theorem e_113 {v0 : Nat} {v1 : Int} : mj_call L d 113 [.inr (.inr v0), .inl v1] c π μ Q = mj_go L d 113 0 [.inr (.inr v0), .inl v1] [] c π μ Q := rfl
theorem o_113 {v1 : Int} : mj_aok 113 [.inr (.inr 1), .inl v1] = true := rfl
theorem e_114 {v0 : Nat} {v1 : Int} {v2 : Int} {v3 : Int} : mj_call L d 114 [.inr (.inr v0), .inl v1, .inl v2, .inl v3] c π μ Q = mj_go L d 114 0 [.inr (.inr v0), .inl v1, .inl v2, .inl v3] [] c π μ Q := rfl
theorem o_114 {v1 : Int} {v2 : Int} {v3 : Int} : mj_aok 114 [.inr (.inr 1), .inl v1, .inl v2, .inl v3] = true := rfl
theorem e_115 {v0 : Nat} {v1 : Int} {v2 : Int} : mj_call L d 115 [.inr (.inr v0), .inl v1, .inl v2] c π μ Q = mj_go L d 115 0 [.inr (.inr v0), .inl v1, .inl v2] [] c π μ Q := rfl
theorem o_115 {v1 : Int} {v2 : Int} : mj_aok 115 [.inr (.inr 1), .inl v1, .inl v2] = true := rfl
theorem e_116 {v0 : Nat} {v1 : Int} {v2 : Int} : mj_call L d 116 [.inr (.inr v0), .inl v1, .inl v2] c π μ Q = mj_go L d 116 0 [.inr (.inr v0), .inl v1, .inl v2] [] c π μ Q := rfl
theorem o_116 {v1 : Int} {v2 : Int} : mj_aok 116 [.inr (.inr 1), .inl v1, .inl v2] = true := rfl
theorem e_117 {v0 : Nat} {v1 : Int} : mj_call L d 117 [.inr (.inr v0), .inl v1] c π μ Q = mj_go L d 117 0 [.inr (.inr v0), .inl v1] [] c π μ Q := rfl
theorem o_117 {v1 : Int} : mj_aok 117 [.inr (.inr 1), .inl v1] = true := rfl
theorem e_118 {v0 : Nat} {v1 : Int} {v2 : Int} : mj_call L d 118 [.inr (.inr v0), .inl v1, .inl v2] c π μ Q = mj_go L d 118 0 [.inr (.inr v0), .inl v1, .inl v2] [] c π μ Q := rfl
theorem o_118 {v1 : Int} {v2 : Int} : mj_aok 118 [.inr (.inr 1), .inl v1, .inl v2] = true := rfl
theorem e_119 {v0 : Nat} {v1 : Int} : mj_call L d 119 [.inr (.inr v0), .inl v1] c π μ Q = mj_go L d 119 0 [.inr (.inr v0), .inl v1] [] c π μ Q := rfl
theorem o_119 {v1 : Int} : mj_aok 119 [.inr (.inr 1), .inl v1] = true := rfl
theorem e_120 {v0 : Nat} {v1 : Int} : mj_call L d 120 [.inr (.inr v0), .inl v1] c π μ Q = mj_go L d 120 0 [.inr (.inr v0), .inl v1, mj_nul] [] c π μ Q := rfl
theorem o_120 {v1 : Int} : mj_aok 120 [.inr (.inr 1), .inl v1] = true := rfl
theorem e_121 {v0 : Nat} {v1 : Int} {v2 : Int} : mj_call L d 121 [.inr (.inr v0), .inl v1, .inl v2] c π μ Q = mj_go L d 121 0 [.inr (.inr v0), .inl v1, .inl v2] [] c π μ Q := rfl
theorem o_121 {v1 : Int} {v2 : Int} : mj_aok 121 [.inr (.inr 1), .inl v1, .inl v2] = true := rfl
theorem e_122 {v0 : Nat} {v1 : Int} {v2 : Int} : mj_call L d 122 [.inr (.inr v0), .inl v1, .inl v2] c π μ Q = mj_go L d 122 0 [.inr (.inr v0), .inl v1, .inl v2] [] c π μ Q := rfl
theorem o_122 {v1 : Int} {v2 : Int} : mj_aok 122 [.inr (.inr 1), .inl v1, .inl v2] = true := rfl
theorem e_123 {v0 : Nat} {v1 : Int} {v2 : Int} : mj_call L d 123 [.inr (.inr v0), .inl v1, .inl v2] c π μ Q = mj_go L d 123 0 [.inr (.inr v0), .inl v1, .inl v2] [] c π μ Q := rfl
theorem o_123 {v1 : Int} {v2 : Int} : mj_aok 123 [.inr (.inr 1), .inl v1, .inl v2] = true := rfl
theorem e_124 {v0 : Nat} {v1 : Int} : mj_call L d 124 [.inr (.inr v0), .inl v1] c π μ Q = mj_go L d 124 0 [.inr (.inr v0), .inl v1] [] c π μ Q := rfl
theorem o_124 {v1 : Int} : mj_aok 124 [.inr (.inr 1), .inl v1] = true := rfl
theorem e_125 {v0 : Nat} {v1 : Int} {v2 : Int} : mj_call L d 125 [.inr (.inr v0), .inl v1, .inl v2] c π μ Q = mj_go L d 125 0 [.inr (.inr v0), .inl v1, .inl v2] [] c π μ Q := rfl
theorem o_125 {v1 : Int} {v2 : Int} : mj_aok 125 [.inr (.inr 1), .inl v1, .inl v2] = true := rfl
theorem e_126 {v0 : Nat} {v1 : Int} {v2 : Int} : mj_call L d 126 [.inr (.inr v0), .inl v1, .inl v2] c π μ Q = mj_go L d 126 0 [.inr (.inr v0), .inl v1, .inl v2] [] c π μ Q := rfl
theorem o_126 {v1 : Int} {v2 : Int} : mj_aok 126 [.inr (.inr 1), .inl v1, .inl v2] = true := rfl
theorem e_127 {v0 : Nat} {v1 : Int} {v2 : Int} : mj_call L d 127 [.inr (.inr v0), .inl v1, .inl v2] c π μ Q = mj_go L d 127 0 [.inr (.inr v0), .inl v1, .inl v2, mj_nul] [] c π μ Q := rfl
theorem o_127 {v1 : Int} {v2 : Int} : mj_aok 127 [.inr (.inr 1), .inl v1, .inl v2] = true := rfl
theorem e_128 {v0 : Nat} : mj_call L d 128 [.inr (.inr v0)] c π μ Q = mj_go L d 128 0 [.inr (.inr v0)] [] c π μ Q := rfl
theorem o_128  : mj_aok 128 [.inr (.inr 1)] = true := rfl
theorem e_129 {v0 : Nat} : mj_call L d 129 [.inr (.inr v0)] c π μ Q = mj_go L d 129 0 [.inr (.inr v0)] [] c π μ Q := rfl
theorem o_129  : mj_aok 129 [.inr (.inr 1)] = true := rfl
theorem e_130 {v0 : Nat} {v1 : Int} : mj_call L d 130 [.inr (.inr v0), .inl v1] c π μ Q = mj_go L d 130 0 [.inr (.inr v0), .inl v1, mj_nul] [] c π μ Q := rfl
theorem o_130 {v1 : Int} : mj_aok 130 [.inr (.inr 1), .inl v1] = true := rfl
theorem e_131 {v0 : Nat} {v1 : Int} {v2 : Int} {v3 : Int} {v4 : Int} {v5 : Int} {v6 : Int} : mj_call L d 131 [.inr (.inr v0), .inl v1, .inl v2, .inl v3, .inl v4, .inl v5, .inl v6] c π μ Q = mj_go L d 131 0 [.inr (.inr v0), .inl v1, .inl v2, .inl v3, .inl v4, .inl v5, .inl v6, mj_nul, mj_nul, mj_nul, mj_nul, mj_nul] [] c π μ Q := rfl
theorem o_131 {v1 : Int} {v2 : Int} {v3 : Int} {v4 : Int} {v5 : Int} {v6 : Int} : mj_aok 131 [.inr (.inr 1), .inl v1, .inl v2, .inl v3, .inl v4, .inl v5, .inl v6] = true := rfl
theorem e_132 {v0 : Nat} {v1 : Int} {v2 : Int} {v3 : Int} {v4 : Int} : mj_call L d 132 [.inr (.inr v0), .inl v1, .inl v2, .inl v3, .inl v4] c π μ Q = mj_go L d 132 0 [.inr (.inr v0), .inl v1, .inl v2, .inl v3, .inl v4] [] c π μ Q := rfl
theorem o_132 {v1 : Int} {v2 : Int} {v3 : Int} {v4 : Int} : mj_aok 132 [.inr (.inr 1), .inl v1, .inl v2, .inl v3, .inl v4] = true := rfl
theorem e_133 {v0 : Nat} {v1 : Int} {v2 : Int} : mj_call L d 133 [.inr (.inr v0), .inl v1, .inl v2] c π μ Q = mj_go L d 133 0 [.inr (.inr v0), .inl v1, .inl v2] [] c π μ Q := rfl
theorem o_133 {v1 : Int} {v2 : Int} : mj_aok 133 [.inr (.inr 1), .inl v1, .inl v2] = true := rfl
theorem e_134 {v0 : Nat} {v1 : Int} {v2 : Int} : mj_call L d 134 [.inr (.inr v0), .inl v1, .inl v2] c π μ Q = mj_go L d 134 0 [.inr (.inr v0), .inl v1, .inl v2, mj_nul] [] c π μ Q := rfl
theorem o_134 {v1 : Int} {v2 : Int} : mj_aok 134 [.inr (.inr 1), .inl v1, .inl v2] = true := rfl
theorem e_135 {v0 : Nat} {v1 : Int} {v2 : Int} : mj_call L d 135 [.inr (.inr v0), .inl v1, .inl v2] c π μ Q = mj_go L d 135 0 [.inr (.inr v0), .inl v1, .inl v2, mj_nul, mj_nul, mj_nul] [] c π μ Q := rfl
theorem o_135 {v1 : Int} {v2 : Int} : mj_aok 135 [.inr (.inr 1), .inl v1, .inl v2] = true := rfl
theorem e_136 {v0 : Nat} {v1 : Int} {v2 : Int} : mj_call L d 136 [.inr (.inr v0), .inl v1, .inl v2] c π μ Q = mj_go L d 136 0 [.inr (.inr v0), .inl v1, .inl v2] [] c π μ Q := rfl
theorem o_136 {v1 : Int} {v2 : Int} : mj_aok 136 [.inr (.inr 1), .inl v1, .inl v2] = true := rfl
theorem e_137 {v0 : Nat} {v1 : Int} {v2 : Int} : mj_call L d 137 [.inr (.inr v0), .inl v1, .inl v2] c π μ Q = mj_go L d 137 0 [.inr (.inr v0), .inl v1, .inl v2] [] c π μ Q := rfl
theorem o_137 {v1 : Int} {v2 : Int} : mj_aok 137 [.inr (.inr 1), .inl v1, .inl v2] = true := rfl
theorem e_138 {v0 : Nat} {v1 : Int} {v2 : Int} {v3 : Int} : mj_call L d 138 [.inr (.inr v0), .inl v1, .inl v2, .inl v3] c π μ Q = mj_go L d 138 0 [.inr (.inr v0), .inl v1, .inl v2, .inl v3] [] c π μ Q := rfl
theorem o_138 {v1 : Int} {v2 : Int} {v3 : Int} : mj_aok 138 [.inr (.inr 1), .inl v1, .inl v2, .inl v3] = true := rfl
theorem e_139 {v0 : Nat} {v1 : Int} {v2 : Int} {v3 : Int} : mj_call L d 139 [.inr (.inr v0), .inl v1, .inl v2, .inl v3] c π μ Q = mj_go L d 139 0 [.inr (.inr v0), .inl v1, .inl v2, .inl v3] [] c π μ Q := rfl
theorem o_139 {v1 : Int} {v2 : Int} {v3 : Int} : mj_aok 139 [.inr (.inr 1), .inl v1, .inl v2, .inl v3] = true := rfl
theorem e_140 {v0 : Nat} {v1 : Int} {v2 : Int} {v3 : Int} {v4 : Int} {v5 : Int} : mj_call L d 140 [.inr (.inr v0), .inl v1, .inl v2, .inl v3, .inl v4, .inl v5] c π μ Q = mj_go L d 140 0 [.inr (.inr v0), .inl v1, .inl v2, .inl v3, .inl v4, .inl v5, mj_nul, mj_nul] [] c π μ Q := rfl
theorem o_140 {v1 : Int} {v2 : Int} {v3 : Int} {v4 : Int} {v5 : Int} : mj_aok 140 [.inr (.inr 1), .inl v1, .inl v2, .inl v3, .inl v4, .inl v5] = true := rfl
theorem e_141 {v0 : Nat} {v1 : Int} : mj_call L d 141 [.inr (.inr v0), .inl v1] c π μ Q = mj_go L d 141 0 [.inr (.inr v0), .inl v1] [] c π μ Q := rfl
theorem o_141 {v1 : Int} : mj_aok 141 [.inr (.inr 1), .inl v1] = true := rfl
theorem e_142 {v0 : Nat} {v1 : Int} : mj_call L d 142 [.inr (.inr v0), .inl v1] c π μ Q = mj_go L d 142 0 [.inr (.inr v0), .inl v1, mj_nul, mj_nul] [] c π μ Q := rfl
theorem o_142 {v1 : Int} : mj_aok 142 [.inr (.inr 1), .inl v1] = true := rfl
theorem e_143 {v0 : Int} {v1 : Int} : mj_call L d 143 [.inl v0, .inl v1] c π μ Q = mj_go L d 143 0 [.inl v0, .inl v1] [] c π μ Q := rfl
theorem o_143 {v0 : Int} {v1 : Int} : mj_aok 143 [.inl v0, .inl v1] = true := rfl
theorem e_144 {v0 : Int} {v1 : Int} {v2 : Int} : mj_call L d 144 [.inl v0, .inl v1, .inl v2] c π μ Q = mj_go L d 144 0 [.inl v0, .inl v1, .inl v2] [] c π μ Q := rfl
theorem o_144 {v0 : Int} {v1 : Int} {v2 : Int} : mj_aok 144 [.inl v0, .inl v1, .inl v2] = true := rfl
theorem e_145 {v0 : Int} {v1 : Int} {v2 : Int} : mj_call L d 145 [.inl v0, .inl v1, .inl v2] c π μ Q = mj_go L d 145 0 [.inl v0, .inl v1, .inl v2, mj_nul] [] c π μ Q := rfl
theorem o_145 {v0 : Int} {v1 : Int} {v2 : Int} : mj_aok 145 [.inl v0, .inl v1, .inl v2] = true := rfl
theorem e_146 {v0 : Int} {v1 : Int} : mj_call L d 146 [.inl v0, .inl v1] c π μ Q = mj_go L d 146 0 [.inl v0, .inl v1, mj_nul, mj_nul, mj_nul, mj_nul] [] c π μ Q := rfl
theorem o_146 {v0 : Int} {v1 : Int} : mj_aok 146 [.inl v0, .inl v1] = true := rfl
theorem e_147 {v0 : Nat} : mj_call L d 147 [.inr (.inr v0)] c π μ Q = mj_go L d 147 0 [.inr (.inr v0), mj_nul] [] c π μ Q := rfl
theorem o_147  : mj_aok 147 [.inr (.inr 67)] = true := rfl
theorem e_148 {v0 : Int} {v1 : Int} {v2 : Int} : mj_call L d 148 [.inr (.inl v0), .inr (.inl v1), .inr (.inl v2)] c π μ Q = mj_go L d 148 0 [.inr (.inl v0), mj_nul, .inr (.inl v1), mj_nul, .inr (.inl v2), mj_nul] [] c π μ Q := rfl
theorem o_148 {v0 : Int} {v1 : Int} {v2 : Int} : mj_aok 148 [.inr (.inl v0), .inr (.inl v1), .inr (.inl v2)] = true := rfl
theorem e_149 {v0 : Int} : mj_call L d 149 [.inl v0] c π μ Q = mj_go L d 149 0 [.inl v0, mj_nul, mj_nul] [] c π μ Q := rfl
theorem o_149 {v0 : Int} : mj_aok 149 [.inl v0] = true := rfl
theorem e_150 {v0 : Nat} : mj_call L d 150 [.inr (.inr v0)] c π μ Q = mj_go L d 150 0 [.inr (.inr v0), mj_nul] [] c π μ Q := rfl
theorem o_150 {v0 : Nat} : mj_aok 150 [.inr (.inr v0)] = true := rfl
theorem e_151 {v0 : Nat} {v1 : Int} : mj_call L d 151 [.inr (.inr v0), .inr (.inl v1)] c π μ Q = mj_go L d 151 0 [.inr (.inr v0), .inr (.inl v1), mj_nul, mj_nul] [] c π μ Q := rfl
theorem o_151 {v1 : Int} : mj_aok 151 [.inr (.inr 67), .inr (.inl v1)] = true := rfl
theorem e_152 {v0 : Nat} {v1 : Int} : mj_call L d 152 [.inr (.inr v0), .inl v1] c π μ Q = mj_go L d 152 0 [.inr (.inr v0), .inl v1, mj_nul] [] c π μ Q := rfl
theorem o_152 {v1 : Int} : mj_aok 152 [.inr (.inr 67), .inl v1] = true := rfl
theorem e_153 {v0 : Nat} {v1 : Int} {v2 : Int} : mj_call L d 153 [.inr (.inr v0), .inl v1, .inl v2] c π μ Q = mj_go L d 153 0 [.inr (.inr v0), .inl v1, .inl v2] [] c π μ Q := rfl
theorem o_153 {v1 : Int} {v2 : Int} : mj_aok 153 [.inr (.inr 67), .inl v1, .inl v2] = true := rfl
theorem e_154 {v0 : Nat} {v1 : Int} : mj_call L d 154 [.inr (.inr v0), .inl v1] c π μ Q = mj_go L d 154 0 [.inr (.inr v0), .inl v1] [] c π μ Q := rfl
theorem o_154 {v1 : Int} : mj_aok 154 [.inr (.inr 67), .inl v1] = true := rfl
theorem e_155 {v0 : Nat} {v1 : Int} {v2 : Int} {v3 : Int} {v4 : Int} {v5 : Int} {v6 : Int} {v7 : Int} : mj_call L d 155 [.inr (.inr v0), .inl v1, .inl v2, .inl v3, .inl v4, .inl v5, .inl v6, .inl v7] c π μ Q = mj_go L d 155 0 [.inr (.inr v0), .inl v1, .inl v2, .inl v3, .inl v4, .inl v5, .inl v6, .inl v7] [] c π μ Q := rfl
theorem o_155 {v1 : Int} {v2 : Int} {v3 : Int} {v4 : Int} {v5 : Int} {v6 : Int} {v7 : Int} : mj_aok 155 [.inr (.inr 67), .inl v1, .inl v2, .inl v3, .inl v4, .inl v5, .inl v6, .inl v7] = true := rfl
theorem e_156 {v0 : Nat} : mj_call L d 156 [.inr (.inr v0)] c π μ Q = mj_go L d 156 0 [.inr (.inr v0)] [] c π μ Q := rfl
theorem o_156  : mj_aok 156 [.inr (.inr 67)] = true := rfl
theorem e_157 {v0 : Nat} : mj_call L d 157 [.inr (.inr v0)] c π μ Q = mj_go L d 157 0 [.inr (.inr v0)] [] c π μ Q := rfl
theorem o_157  : mj_aok 157 [.inr (.inr 67)] = true := rfl
theorem e_158 {v0 : Nat} : mj_call L d 158 [.inr (.inr v0)] c π μ Q = mj_go L d 158 0 [.inr (.inr v0), mj_nul] [] c π μ Q := rfl
theorem o_158  : mj_aok 158 [.inr (.inr 67)] = true := rfl
theorem e_159 {v0 : Nat} {v1 : Int} : mj_call L d 159 [.inr (.inr v0), .inl v1] c π μ Q = mj_go L d 159 0 [.inr (.inr v0), .inl v1] [] c π μ Q := rfl
theorem o_159 {v1 : Int} : mj_aok 159 [.inr (.inr 67), .inl v1] = true := rfl
theorem e_160 {v0 : Nat} {v1 : Int} {v2 : Int} : mj_call L d 160 [.inr (.inr v0), .inl v1, .inl v2] c π μ Q = mj_go L d 160 0 [.inr (.inr v0), .inl v1, .inl v2] [] c π μ Q := rfl
theorem o_160 {v1 : Int} {v2 : Int} : mj_aok 160 [.inr (.inr 67), .inl v1, .inl v2] = true := rfl
theorem e_161 {v0 : Nat} : mj_call L d 161 [.inr (.inr v0)] c π μ Q = mj_go L d 161 0 [.inr (.inr v0), mj_nul, mj_nul, mj_nul, mj_nul, mj_nul] [] c π μ Q := rfl
theorem o_161  : mj_aok 161 [.inr (.inr 67)] = true := rfl
theorem e_162 {v0 : Nat} : mj_call L d 162 [.inr (.inr v0)] c π μ Q = mj_go L d 162 0 [.inr (.inr v0), mj_nul, mj_nul, mj_nul] [] c π μ Q := rfl
theorem o_162  : mj_aok 162 [.inr (.inr 67)] = true := rfl
theorem e_163 {v0 : Int} : mj_call L d 163 [.inl v0] c π μ Q = mj_go L d 163 0 [.inl v0] [] c π μ Q := rfl
theorem o_163 {v0 : Int} : mj_aok 163 [.inl v0] = true := rfl
theorem e_164 {v0 : Int} : mj_call L d 164 [.inl v0] c π μ Q = mj_go L d 164 0 [.inl v0] [] c π μ Q := rfl
theorem o_164 {v0 : Int} : mj_aok 164 [.inl v0] = true := rfl
theorem e_165 {v0 : Nat} : mj_call L d 165 [.inr (.inr v0)] c π μ Q = mj_go L d 165 0 [.inr (.inr v0), mj_nul] [] c π μ Q := rfl
theorem o_165  : mj_aok 165 [.inr (.inr 67)] = true := rfl
theorem e_166 {v0 : Nat} : mj_call L d 166 [.inr (.inr v0)] c π μ Q = mj_go L d 166 0 [.inr (.inr v0), mj_nul, mj_nul] [] c π μ Q := rfl
theorem o_166  : mj_aok 166 [.inr (.inr 67)] = true := rfl
theorem e_167 {v0 : Nat} : mj_call L d 167 [.inr (.inr v0)] c π μ Q = mj_go L d 167 0 [.inr (.inr v0)] [] c π μ Q := rfl
theorem o_167  : mj_aok 167 [.inr (.inr 67)] = true := rfl
theorem e_168 {v0 : Nat} {v1 : Int} : mj_call L d 168 [.inr (.inr v0), .inl v1] c π μ Q = mj_go L d 168 0 [.inr (.inr v0), .inl v1] [] c π μ Q := rfl
theorem o_168 {v1 : Int} : mj_aok 168 [.inr (.inr 67), .inl v1] = true := rfl
theorem e_169 {v0 : Nat} {v1 : Int} : mj_call L d 169 [.inr (.inr v0), .inl v1] c π μ Q = mj_go L d 169 0 [.inr (.inr v0), .inl v1] [] c π μ Q := rfl
theorem o_169 {v1 : Int} : mj_aok 169 [.inr (.inr 67), .inl v1] = true := rfl
theorem e_170 {v0 : Nat} {v1 : Int} : mj_call L d 170 [.inr (.inr v0), .inl v1] c π μ Q = mj_go L d 170 0 [.inr (.inr v0), .inl v1] [] c π μ Q := rfl
theorem o_170 {v1 : Int} : mj_aok 170 [.inr (.inr 67), .inl v1] = true := rfl
theorem e_171 {v0 : Nat} {v1 : Int} : mj_call L d 171 [.inr (.inr v0), .inl v1] c π μ Q = mj_go L d 171 0 [.inr (.inr v0), .inl v1] [] c π μ Q := rfl
theorem o_171 {v1 : Int} : mj_aok 171 [.inr (.inr 67), .inl v1] = true := rfl
theorem e_172 {v0 : Nat} {v1 : Int} : mj_call L d 172 [.inr (.inr v0), .inl v1] c π μ Q = mj_go L d 172 0 [.inr (.inr v0), .inl v1] [] c π μ Q := rfl
theorem o_172 {v1 : Int} : mj_aok 172 [.inr (.inr 67), .inl v1] = true := rfl
theorem e_173 {v0 : Nat} {v1 : Int} {v2 : Int} {v3 : Int} : mj_call L d 173 [.inr (.inr v0), .inl v1, .inl v2, .inl v3] c π μ Q = mj_go L d 173 0 [.inr (.inr v0), .inl v1, .inl v2, .inl v3] [] c π μ Q := rfl
theorem o_173 {v1 : Int} {v2 : Int} {v3 : Int} : mj_aok 173 [.inr (.inr 67), .inl v1, .inl v2, .inl v3] = true := rfl
theorem e_174 {v0 : Nat} {v1 : Int} {v2 : Int} : mj_call L d 174 [.inr (.inr v0), .inl v1, .inl v2] c π μ Q = mj_go L d 174 0 [.inr (.inr v0), .inl v1, .inl v2] [] c π μ Q := rfl
theorem o_174 {v1 : Int} {v2 : Int} : mj_aok 174 [.inr (.inr 67), .inl v1, .inl v2] = true := rfl
theorem e_175 {v0 : Nat} {v1 : Int} : mj_call L d 175 [.inr (.inr v0), .inl v1] c π μ Q = mj_go L d 175 0 [.inr (.inr v0), .inl v1, mj_nul, mj_nul] [] c π μ Q := rfl
theorem o_175 {v1 : Int} : mj_aok 175 [.inr (.inr 67), .inl v1] = true := rfl
theorem e_176 {v0 : Nat} {v1 : Int} {v2 : Int} : mj_call L d 176 [.inr (.inr v0), .inl v1, .inl v2] c π μ Q = mj_go L d 176 0 [.inr (.inr v0), .inl v1, .inl v2, mj_nul, mj_nul] [] c π μ Q := rfl
theorem o_176 {v1 : Int} {v2 : Int} : mj_aok 176 [.inr (.inr 67), .inl v1, .inl v2] = true := rfl
theorem e_177 {v0 : Nat} {v1 : Int} : mj_call L d 177 [.inr (.inr v0), .inl v1] c π μ Q = mj_go L d 177 0 [.inr (.inr v0), .inl v1, mj_nul, mj_nul] [] c π μ Q := rfl
theorem o_177 {v1 : Int} : mj_aok 177 [.inr (.inr 67), .inl v1] = true := rfl
theorem e_178 {v0 : Nat} {v1 : Int} {v2 : Int} : mj_call L d 178 [.inr (.inr v0), .inl v1, .inl v2] c π μ Q = mj_go L d 178 0 [.inr (.inr v0), .inl v1, .inl v2, mj_nul, mj_nul] [] c π μ Q := rfl
theorem o_178 {v1 : Int} {v2 : Int} : mj_aok 178 [.inr (.inr 67), .inl v1, .inl v2] = true := rfl
theorem e_179 {v0 : Nat} {v1 : Int} {v2 : Int} : mj_call L d 179 [.inr (.inr v0), .inl v1, .inl v2] c π μ Q = mj_go L d 179 0 [.inr (.inr v0), .inl v1, .inl v2] [] c π μ Q := rfl
theorem o_179 {v1 : Int} {v2 : Int} : mj_aok 179 [.inr (.inr 67), .inl v1, .inl v2] = true := rfl
theorem e_180 {v0 : Nat} {v1 : Int} : mj_call L d 180 [.inr (.inr v0), .inl v1] c π μ Q = mj_go L d 180 0 [.inr (.inr v0), .inl v1] [] c π μ Q := rfl
theorem o_180 {v1 : Int} : mj_aok 180 [.inr (.inr 67), .inl v1] = true := rfl
theorem e_181 {v0 : Nat} {v1 : Int} {v2 : Int} : mj_call L d 181 [.inr (.inr v0), .inl v1, .inl v2] c π μ Q = mj_go L d 181 0 [.inr (.inr v0), .inl v1, .inl v2] [] c π μ Q := rfl
theorem o_181 {v1 : Int} {v2 : Int} : mj_aok 181 [.inr (.inr 67), .inl v1, .inl v2] = true := rfl
theorem e_182 {v0 : Nat} {v1 : Int} {v2 : Int} : mj_call L d 182 [.inr (.inr v0), .inl v1, .inl v2] c π μ Q = mj_go L d 182 0 [.inr (.inr v0), .inl v1, .inl v2] [] c π μ Q := rfl
theorem o_182 {v1 : Int} {v2 : Int} : mj_aok 182 [.inr (.inr 67), .inl v1, .inl v2] = true := rfl
theorem e_183 {v0 : Nat} {v1 : Int} : mj_call L d 183 [.inr (.inr v0), .inl v1] c π μ Q = mj_go L d 183 0 [.inr (.inr v0), .inl v1, mj_nul] [] c π μ Q := rfl
theorem o_183 {v1 : Int} : mj_aok 183 [.inr (.inr 67), .inl v1] = true := rfl
theorem e_184 {v0 : Nat} {v1 : Int} : mj_call L d 184 [.inr (.inr v0), .inl v1] c π μ Q = mj_go L d 184 0 [.inr (.inr v0), .inl v1] [] c π μ Q := rfl
theorem o_184 {v1 : Int} : mj_aok 184 [.inr (.inr 67), .inl v1] = true := rfl
theorem e_185 {v0 : Nat} {v1 : Int} : mj_call L d 185 [.inr (.inr v0), .inl v1] c π μ Q = mj_go L d 185 0 [.inr (.inr v0), .inl v1] [] c π μ Q := rfl
theorem o_185 {v1 : Int} : mj_aok 185 [.inr (.inr 67), .inl v1] = true := rfl
theorem e_186 {v0 : Nat} {v1 : Int} : mj_call L d 186 [.inr (.inr v0), .inl v1] c π μ Q = mj_go L d 186 0 [.inr (.inr v0), .inl v1, mj_nul] [] c π μ Q := rfl
theorem o_186 {v1 : Int} : mj_aok 186 [.inr (.inr 67), .inl v1] = true := rfl
theorem e_187 {v0 : Nat} {v1 : Int} : mj_call L d 187 [.inr (.inr v0), .inl v1] c π μ Q = mj_go L d 187 0 [.inr (.inr v0), .inl v1] [] c π μ Q := rfl
theorem o_187 {v1 : Int} : mj_aok 187 [.inr (.inr 67), .inl v1] = true := rfl
theorem e_188 {v0 : Nat} {v1 : Int} : mj_call L d 188 [.inr (.inr v0), .inl v1] c π μ Q = mj_go L d 188 0 [.inr (.inr v0), .inl v1] [] c π μ Q := rfl
theorem o_188 {v1 : Int} : mj_aok 188 [.inr (.inr 67), .inl v1] = true := rfl
theorem e_189 {v0 : Nat} {v1 : Int} {v2 : Int} : mj_call L d 189 [.inr (.inr v0), .inl v1, .inl v2] c π μ Q = mj_go L d 189 0 [.inr (.inr v0), .inl v1, .inl v2, mj_nul] [] c π μ Q := rfl
theorem o_189 {v1 : Int} {v2 : Int} : mj_aok 189 [.inr (.inr 67), .inl v1, .inl v2] = true := rfl
theorem e_190 {v0 : Nat} {v1 : Int} {v2 : Int} : mj_call L d 190 [.inr (.inr v0), .inl v1, .inl v2] c π μ Q = mj_go L d 190 0 [.inr (.inr v0), .inl v1, .inl v2, mj_nul, mj_nul] [] c π μ Q := rfl
theorem o_190 {v1 : Int} {v2 : Int} : mj_aok 190 [.inr (.inr 67), .inl v1, .inl v2] = true := rfl
theorem e_191 {v0 : Nat} {v1 : Int} : mj_call L d 191 [.inr (.inr v0), .inl v1] c π μ Q = mj_go L d 191 0 [.inr (.inr v0), .inl v1] [] c π μ Q := rfl
theorem o_191 {v1 : Int} : mj_aok 191 [.inr (.inr 67), .inl v1] = true := rfl
theorem e_192 {v0 : Nat} {v1 : Int} : mj_call L d 192 [.inr (.inr v0), .inl v1] c π μ Q = mj_go L d 192 0 [.inr (.inr v0), .inl v1, mj_nul, mj_nul] [] c π μ Q := rfl
theorem o_192 {v1 : Int} : mj_aok 192 [.inr (.inr 67), .inl v1] = true := rfl
theorem e_193 {v0 : Nat} {v1 : Int} {v2 : Int} : mj_call L d 193 [.inr (.inr v0), .inl v1, .inl v2] c π μ Q = mj_go L d 193 0 [.inr (.inr v0), .inl v1, .inl v2, mj_nul, mj_nul, mj_nul] [] c π μ Q := rfl
theorem o_193 {v1 : Int} {v2 : Int} : mj_aok 193 [.inr (.inr 67), .inl v1, .inl v2] = true := rfl
theorem e_194 {v0 : Nat} {v1 : Int} {v2 : Int} : mj_call L d 194 [.inr (.inr v0), .inl v1, .inl v2] c π μ Q = mj_go L d 194 0 [.inr (.inr v0), .inl v1, .inl v2, mj_nul] [] c π μ Q := rfl
theorem o_194 {v1 : Int} {v2 : Int} : mj_aok 194 [.inr (.inr 67), .inl v1, .inl v2] = true := rfl
theorem e_195 {v0 : Nat} {v1 : Int} : mj_call L d 195 [.inr (.inr v0), .inl v1] c π μ Q = mj_go L d 195 0 [.inr (.inr v0), .inl v1] [] c π μ Q := rfl
theorem o_195 {v1 : Int} : mj_aok 195 [.inr (.inr 67), .inl v1] = true := rfl
theorem e_196 {v0 : Nat} {v1 : Int} {v2 : Int} : mj_call L d 196 [.inr (.inr v0), .inl v1, .inl v2] c π μ Q = mj_go L d 196 0 [.inr (.inr v0), .inl v1, .inl v2] [] c π μ Q := rfl
theorem o_196 {v1 : Int} {v2 : Int} : mj_aok 196 [.inr (.inr 67), .inl v1, .inl v2] = true := rfl
theorem e_197 {v0 : Nat} {v1 : Int} {v2 : Int} : mj_call L d 197 [.inr (.inr v0), .inl v1, .inl v2] c π μ Q = mj_go L d 197 0 [.inr (.inr v0), .inl v1, .inl v2, mj_nul, mj_nul, mj_nul, mj_nul] [] c π μ Q := rfl
theorem o_197 {v1 : Int} {v2 : Int} : mj_aok 197 [.inr (.inr 67), .inl v1, .inl v2] = true := rfl
theorem e_198 {v0 : Nat} {v1 : Int} {v2 : Int} : mj_call L d 198 [.inr (.inr v0), .inl v1, .inl v2] c π μ Q = mj_go L d 198 0 [.inr (.inr v0), .inl v1, .inl v2] [] c π μ Q := rfl
theorem o_198 {v1 : Int} {v2 : Int} : mj_aok 198 [.inr (.inr 67), .inl v1, .inl v2] = true := rfl
theorem e_199 {v0 : Nat} {v1 : Int} {v2 : Int} : mj_call L d 199 [.inr (.inr v0), .inl v1, .inl v2] c π μ Q = mj_go L d 199 0 [.inr (.inr v0), .inl v1, .inl v2] [] c π μ Q := rfl
theorem o_199 {v1 : Int} {v2 : Int} : mj_aok 199 [.inr (.inr 67), .inl v1, .inl v2] = true := rfl
theorem e_200 {v0 : Nat} {v1 : Int} {v2 : Int} : mj_call L d 200 [.inr (.inr v0), .inl v1, .inl v2] c π μ Q = mj_go L d 200 0 [.inr (.inr v0), .inl v1, .inl v2, mj_nul] [] c π μ Q := rfl
theorem o_200 {v1 : Int} {v2 : Int} : mj_aok 200 [.inr (.inr 67), .inl v1, .inl v2] = true := rfl
theorem e_201 {v0 : Nat} {v1 : Int} {v2 : Int} : mj_call L d 201 [.inr (.inr v0), .inl v1, .inl v2] c π μ Q = mj_go L d 201 0 [.inr (.inr v0), .inl v1, .inl v2, mj_nul, mj_nul, mj_nul, mj_nul] [] c π μ Q := rfl
theorem o_201 {v1 : Int} {v2 : Int} : mj_aok 201 [.inr (.inr 67), .inl v1, .inl v2] = true := rfl
theorem e_202 {v0 : Nat} {v1 : Int} {v2 : Int} : mj_call L d 202 [.inr (.inr v0), .inl v1, .inl v2] c π μ Q = mj_go L d 202 0 [.inr (.inr v0), .inl v1, .inl v2, mj_nul, mj_nul, mj_nul] [] c π μ Q := rfl
theorem o_202 {v1 : Int} {v2 : Int} : mj_aok 202 [.inr (.inr 67), .inl v1, .inl v2] = true := rfl
theorem e_203 {v0 : Nat} {v1 : Int} {v2 : Int} : mj_call L d 203 [.inr (.inr v0), .inl v1, .inl v2] c π μ Q = mj_go L d 203 0 [.inr (.inr v0), .inl v1, .inl v2] [] c π μ Q := rfl
theorem o_203 {v1 : Int} {v2 : Int} : mj_aok 203 [.inr (.inr 67), .inl v1, .inl v2] = true := rfl
theorem e_204 {v0 : Nat} {v1 : Int} : mj_call L d 204 [.inr (.inr v0), .inl v1] c π μ Q = mj_go L d 204 0 [.inr (.inr v0), .inl v1, mj_nul, mj_nul, mj_nul] [] c π μ Q := rfl
theorem o_204 {v1 : Int} : mj_aok 204 [.inr (.inr 67), .inl v1] = true := rfl
theorem e_205 {v0 : Nat} : mj_call L d 205 [.inr (.inr v0)] c π μ Q = mj_go L d 205 0 [.inr (.inr v0), mj_nul, mj_nul, mj_nul, mj_nul] [] c π μ Q := rfl
theorem o_205  : mj_aok 205 [.inr (.inr 67)] = true := rfl
theorem e_206 {v0 : Nat} : mj_call L d 206 [.inr (.inr v0)] c π μ Q = mj_go L d 206 0 [.inr (.inr v0), mj_nul, mj_nul] [] c π μ Q := rfl
theorem o_206  : mj_aok 206 [.inr (.inr 67)] = true := rfl
theorem e_207 {v0 : Nat} : mj_call L d 207 [.inr (.inr v0)] c π μ Q = mj_go L d 207 0 [.inr (.inr v0), mj_nul, mj_nul] [] c π μ Q := rfl
theorem o_207  : mj_aok 207 [.inr (.inr 67)] = true := rfl
theorem e_208 {v0 : Nat} : mj_call L d 208 [.inr (.inr v0)] c π μ Q = mj_go L d 208 0 [.inr (.inr v0)] [] c π μ Q := rfl
theorem o_208  : mj_aok 208 [.inr (.inr 67)] = true := rfl
theorem e_209 {v0 : Nat} : mj_call L d 209 [.inr (.inr v0)] c π μ Q = mj_go L d 209 0 [.inr (.inr v0), mj_nul, mj_nul, mj_nul] [] c π μ Q := rfl
theorem o_209  : mj_aok 209 [.inr (.inr 67)] = true := rfl
theorem e_210 {v0 : Nat} {v1 : Int} : mj_call L d 210 [.inr (.inr v0), .inl v1] c π μ Q = mj_go L d 210 0 [.inr (.inr v0), .inl v1, mj_nul, mj_nul, mj_nul, mj_nul] [] c π μ Q := rfl
theorem o_210 {v1 : Int} : mj_aok 210 [.inr (.inr 67), .inl v1] = true := rfl
theorem e_211 {v0 : Nat} {v1 : Int} {v2 : Int} {v3 : Int} {v4 : Int} {v5 : Int} : mj_call L d 211 [.inr (.inr v0), .inl v1, .inl v2, .inl v3, .inl v4, .inl v5] c π μ Q = mj_go L d 211 0 [.inr (.inr v0), .inl v1, .inl v2, .inl v3, .inl v4, .inl v5] [] c π μ Q := rfl
theorem o_211 {v1 : Int} {v2 : Int} {v3 : Int} {v4 : Int} {v5 : Int} : mj_aok 211 [.inr (.inr 67), .inl v1, .inl v2, .inl v3, .inl v4, .inl v5] = true := rfl
theorem e_212 {v0 : Nat} {v1 : Int} {v2 : Int} {v3 : Int} {v4 : Int} {v5 : Int} : mj_call L d 212 [.inr (.inr v0), .inl v1, .inl v2, .inl v3, .inl v4, .inl v5] c π μ Q = mj_go L d 212 0 [.inr (.inr v0), .inl v1, .inl v2, .inl v3, .inl v4, .inl v5, mj_nul, mj_nul, mj_nul, mj_nul, mj_nul, mj_nul, mj_nul, mj_nul, mj_nul, mj_nul] [] c π μ Q := rfl
theorem o_212 {v1 : Int} {v2 : Int} {v3 : Int} {v4 : Int} {v5 : Int} : mj_aok 212 [.inr (.inr 67), .inl v1, .inl v2, .inl v3, .inl v4, .inl v5] = true := rfl
theorem e_213 {v0 : Nat} {v1 : Int} {v2 : Int} {v3 : Int} {v4 : Int} {v5 : Int} {v6 : Int} : mj_call L d 213 [.inr (.inr v0), .inl v1, .inl v2, .inl v3, .inl v4, .inl v5, .inl v6] c π μ Q = mj_go L d 213 0 [.inr (.inr v0), .inl v1, .inl v2, .inl v3, .inl v4, .inl v5, .inl v6] [] c π μ Q := rfl
theorem o_213 {v1 : Int} {v2 : Int} {v3 : Int} {v4 : Int} {v5 : Int} {v6 : Int} : mj_aok 213 [.inr (.inr 67), .inl v1, .inl v2, .inl v3, .inl v4, .inl v5, .inl v6] = true := rfl
theorem e_214 {v0 : Nat} {v1 : Int} : mj_call L d 214 [.inr (.inr v0), .inl v1] c π μ Q = mj_go L d 214 0 [.inr (.inr v0), .inl v1] [] c π μ Q := rfl
theorem o_214 {v1 : Int} : mj_aok 214 [.inr (.inr 67), .inl v1] = true := rfl
theorem e_215 {v0 : Nat} {v1 : Int} {v2 : Int} {v3 : Int} {v4 : Int} : mj_call L d 215 [.inr (.inr v0), .inl v1, .inl v2, .inl v3, .inl v4] c π μ Q = mj_go L d 215 0 [.inr (.inr v0), .inl v1, .inl v2, .inl v3, .inl v4, mj_nul] [] c π μ Q := rfl
theorem o_215 {v1 : Int} {v2 : Int} {v3 : Int} {v4 : Int} : mj_aok 215 [.inr (.inr 67), .inl v1, .inl v2, .inl v3, .inl v4] = true := rfl
theorem e_216 {v0 : Nat} {v1 : Int} {v2 : Int} : mj_call L d 216 [.inr (.inr v0), .inl v1, .inl v2] c π μ Q = mj_go L d 216 0 [.inr (.inr v0), .inl v1, .inl v2] [] c π μ Q := rfl
theorem o_216 {v1 : Int} {v2 : Int} : mj_aok 216 [.inr (.inr 67), .inl v1, .inl v2] = true := rfl
theorem e_217 {v0 : Int} {v1 : Int} {v2 : Int} : mj_call L d 217 [.inl v0, .inl v1, .inl v2] c π μ Q = mj_go L d 217 0 [.inl v0, .inl v1, .inl v2, mj_nul, mj_nul, mj_nul] [] c π μ Q := rfl
theorem o_217 {v0 : Int} {v1 : Int} {v2 : Int} : mj_aok 217 [.inl v0, .inl v1, .inl v2] = true := rfl
theorem e_218 {v0 : Nat} {v1 : Int} {v2 : Int} : mj_call L d 218 [.inr (.inr v0), .inl v1, .inl v2] c π μ Q = mj_go L d 218 0 [.inr (.inr v0), .inl v1, .inl v2, mj_nul] [] c π μ Q := rfl
theorem o_218 {v1 : Int} {v2 : Int} : mj_aok 218 [.inr (.inr 67), .inl v1, .inl v2] = true := rfl
theorem e_219 {v0 : Nat} {v1 : Int} {v2 : Int} : mj_call L d 219 [.inr (.inr v0), .inl v1, .inl v2] c π μ Q = mj_go L d 219 0 [.inr (.inr v0), .inl v1, .inl v2, mj_nul, mj_nul, mj_nul] [] c π μ Q := rfl
theorem o_219 {v1 : Int} {v2 : Int} : mj_aok 219 [.inr (.inr 67), .inl v1, .inl v2] = true := rfl
theorem e_220 {v0 : Nat} {v1 : Int} {v2 : Int} : mj_call L d 220 [.inr (.inr v0), .inl v1, .inl v2] c π μ Q = mj_go L d 220 0 [.inr (.inr v0), .inl v1, .inl v2, mj_nul, mj_nul] [] c π μ Q := rfl
theorem o_220 {v1 : Int} {v2 : Int} : mj_aok 220 [.inr (.inr 67), .inl v1, .inl v2] = true := rfl
theorem e_221 {v0 : Nat} {v1 : Int} {v2 : Int} : mj_call L d 221 [.inr (.inr v0), .inl v1, .inl v2] c π μ Q = mj_go L d 221 0 [.inr (.inr v0), .inl v1, .inl v2, mj_nul, mj_nul] [] c π μ Q := rfl
theorem o_221 {v1 : Int} {v2 : Int} : mj_aok 221 [.inr (.inr 67), .inl v1, .inl v2] = true := rfl
theorem e_222 {v0 : Int} {v1 : Int} : mj_call L d 222 [.inl v0, .inl v1] c π μ Q = mj_go L d 222 0 [.inl v0, .inl v1] [] c π μ Q := rfl
theorem o_222 {v0 : Int} {v1 : Int} : mj_aok 222 [.inl v0, .inl v1] = true := rfl
theorem e_223 {v0 : Nat} {v1 : Int} {v2 : Int} {v3 : Int} : mj_call L d 223 [.inr (.inr v0), .inl v1, .inl v2, .inl v3] c π μ Q = mj_go L d 223 0 [.inr (.inr v0), .inl v1, .inl v2, .inl v3, mj_nul] [] c π μ Q := rfl
theorem o_223 {v1 : Int} {v2 : Int} {v3 : Int} : mj_aok 223 [.inr (.inr 67), .inl v1, .inl v2, .inl v3] = true := rfl
theorem e_224 {v0 : Nat} {v1 : Int} {v2 : Int} {v3 : Int} : mj_call L d 224 [.inr (.inr v0), .inl v1, .inl v2, .inl v3] c π μ Q = mj_go L d 224 0 [.inr (.inr v0), .inl v1, .inl v2, .inl v3] [] c π μ Q := rfl
theorem o_224 {v1 : Int} {v2 : Int} {v3 : Int} : mj_aok 224 [.inr (.inr 67), .inl v1, .inl v2, .inl v3] = true := rfl
theorem e_225 {v0 : Nat} {v1 : Int} {v2 : Int} {v3 : Int} {v4 : Int} {v5 : Int} : mj_call L d 225 [.inr (.inr v0), .inl v1, .inl v2, .inl v3, .inl v4, .inl v5] c π μ Q = mj_go L d 225 0 [.inr (.inr v0), .inl v1, .inl v2, .inl v3, .inl v4, .inl v5, mj_nul, mj_nul, mj_nul] [] c π μ Q := rfl
theorem o_225 {v1 : Int} {v2 : Int} {v3 : Int} {v4 : Int} {v5 : Int} : mj_aok 225 [.inr (.inr 67), .inl v1, .inl v2, .inl v3, .inl v4, .inl v5] = true := rfl
theorem e_226 {v0 : Nat} {v1 : Int} : mj_call L d 226 [.inr (.inr v0), .inl v1] c π μ Q = mj_go L d 226 0 [.inr (.inr v0), .inl v1, mj_nul, mj_nul, mj_nul, mj_nul] [] c π μ Q := rfl
theorem o_226 {v1 : Int} : mj_aok 226 [.inr (.inr 67), .inl v1] = true := rfl
theorem e_227 {v0 : Int} : mj_call L d 227 [.inl v0] c π μ Q = mj_go L d 227 0 [.inl v0] [] c π μ Q := rfl
theorem o_227 {v0 : Int} : mj_aok 227 [.inl v0] = true := rfl
theorem e_236 {v0 : Nat} {v1 : Int} : mj_call L d 236 [.inr (.inr v0), .inl v1] c π μ Q = mj_go L d 236 0 [.inr (.inr v0), .inl v1, mj_nul, mj_nul] [] c π μ Q := rfl
theorem o_236 {v0 : Nat} {v1 : Int} : mj_aok 236 [.inr (.inr v0), .inl v1] = true := rfl
theorem e_238 {v0 : Nat} : mj_call L d 238 [.inr (.inr v0)] c π μ Q = mj_go L d 238 0 [.inr (.inr v0), mj_nul, mj_nul, mj_nul] [] c π μ Q := rfl
theorem o_238 {v0 : Nat} : mj_aok 238 [.inr (.inr v0)] = true := rfl
theorem e_239 {v0 : Nat} {v1 : Int} : mj_call L d 239 [.inr (.inr v0), .inl v1] c π μ Q = mj_go L d 239 0 [.inr (.inr v0), .inl v1, mj_nul] [] c π μ Q := rfl
theorem o_239 {v1 : Int} : mj_aok 239 [.inr (.inr 52), .inl v1] = true := rfl
theorem e_240 {v0 : Nat} : mj_call L d 240 [.inr (.inr v0)] c π μ Q = mj_go L d 240 0 [.inr (.inr v0), mj_nul] [] c π μ Q := rfl
theorem o_240  : mj_aok 240 [.inr (.inr 52)] = true := rfl
end
