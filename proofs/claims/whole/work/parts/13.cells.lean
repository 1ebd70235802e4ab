-- fields and elements, as rewriting rules (written by wip/whole/gen13.py)
section ZF
variable {v v0 v1 v2 v3 v4 v5 v6 v7 v8 v9 v10 v11 v12 v13 v14 v15 v16 v17 v18 v19 v20 v21 v22 v23 v24 v25 v26 v27 v28 v29 v30 v31 v32 x y : Value} {F : Value → Prop} {G : zC → Prop}
theorem zg0_0 : zgf (.inr (0, [v0, v1, v2, v3, v4, v5])) 0 0 F = F v0 := rfl
theorem zp0_0 : zpf (.inr (0, [v0, v1, v2, v3, v4, v5])) 0 0 v G = G (.inr (0, [v, v1, v2, v3, v4, v5])) := rfl
theorem zg0_1 : zgf (.inr (0, [v0, v1, v2, v3, v4, v5])) 0 1 F = F v1 := rfl
theorem zp0_1 : zpf (.inr (0, [v0, v1, v2, v3, v4, v5])) 0 1 v G = G (.inr (0, [v0, v, v2, v3, v4, v5])) := rfl
theorem zg0_2 : zgf (.inr (0, [v0, v1, v2, v3, v4, v5])) 0 2 F = F v2 := rfl
theorem zp0_2 : zpf (.inr (0, [v0, v1, v2, v3, v4, v5])) 0 2 v G = G (.inr (0, [v0, v1, v, v3, v4, v5])) := rfl
theorem zg0_3 : zgf (.inr (0, [v0, v1, v2, v3, v4, v5])) 0 3 F = F v3 := rfl
theorem zp0_3 : zpf (.inr (0, [v0, v1, v2, v3, v4, v5])) 0 3 v G = G (.inr (0, [v0, v1, v2, v, v4, v5])) := rfl
theorem zg0_4 : zgf (.inr (0, [v0, v1, v2, v3, v4, v5])) 0 4 F = F v4 := rfl
theorem zp0_4 : zpf (.inr (0, [v0, v1, v2, v3, v4, v5])) 0 4 v G = G (.inr (0, [v0, v1, v2, v3, v, v5])) := rfl
theorem zg0_5 : zgf (.inr (0, [v0, v1, v2, v3, v4, v5])) 0 5 F = F v5 := rfl
theorem zp0_5 : zpf (.inr (0, [v0, v1, v2, v3, v4, v5])) 0 5 v G = G (.inr (0, [v0, v1, v2, v3, v4, v])) := rfl
theorem zg1_0 : zgf (.inr (1, [v0, v1, v2, v3, v4])) 1 0 F = F v0 := rfl
theorem zp1_0 : zpf (.inr (1, [v0, v1, v2, v3, v4])) 1 0 v G = G (.inr (1, [v, v1, v2, v3, v4])) := rfl
theorem zg1_1 : zgf (.inr (1, [v0, v1, v2, v3, v4])) 1 1 F = F v1 := rfl
theorem zp1_1 : zpf (.inr (1, [v0, v1, v2, v3, v4])) 1 1 v G = G (.inr (1, [v0, v, v2, v3, v4])) := rfl
theorem zg1_2 : zgf (.inr (1, [v0, v1, v2, v3, v4])) 1 2 F = F v2 := rfl
theorem zp1_2 : zpf (.inr (1, [v0, v1, v2, v3, v4])) 1 2 v G = G (.inr (1, [v0, v1, v, v3, v4])) := rfl
theorem zg1_3 : zgf (.inr (1, [v0, v1, v2, v3, v4])) 1 3 F = F v3 := rfl
theorem zp1_3 : zpf (.inr (1, [v0, v1, v2, v3, v4])) 1 3 v G = G (.inr (1, [v0, v1, v2, v, v4])) := rfl
theorem zg1_4 : zgf (.inr (1, [v0, v1, v2, v3, v4])) 1 4 F = F v4 := rfl
theorem zp1_4 : zpf (.inr (1, [v0, v1, v2, v3, v4])) 1 4 v G = G (.inr (1, [v0, v1, v2, v3, v])) := rfl
theorem zg2_0 : zgf (.inr (2, [v0, v1, v2, v3])) 2 0 F = F v0 := rfl
theorem zp2_0 : zpf (.inr (2, [v0, v1, v2, v3])) 2 0 v G = G (.inr (2, [v, v1, v2, v3])) := rfl
theorem zg2_1 : zgf (.inr (2, [v0, v1, v2, v3])) 2 1 F = F v1 := rfl
theorem zp2_1 : zpf (.inr (2, [v0, v1, v2, v3])) 2 1 v G = G (.inr (2, [v0, v, v2, v3])) := rfl
theorem zg2_2 : zgf (.inr (2, [v0, v1, v2, v3])) 2 2 F = F v2 := rfl
theorem zp2_2 : zpf (.inr (2, [v0, v1, v2, v3])) 2 2 v G = G (.inr (2, [v0, v1, v, v3])) := rfl
theorem zg2_3 : zgf (.inr (2, [v0, v1, v2, v3])) 2 3 F = F v3 := rfl
theorem zp2_3 : zpf (.inr (2, [v0, v1, v2, v3])) 2 3 v G = G (.inr (2, [v0, v1, v2, v])) := rfl
theorem zg3_0 : zgf (.inr (3, [v0, v1])) 3 0 F = F v0 := rfl
theorem zp3_0 : zpf (.inr (3, [v0, v1])) 3 0 v G = G (.inr (3, [v, v1])) := rfl
theorem zg3_1 : zgf (.inr (3, [v0, v1])) 3 1 F = F v1 := rfl
theorem zp3_1 : zpf (.inr (3, [v0, v1])) 3 1 v G = G (.inr (3, [v0, v])) := rfl
theorem zg4_0 : zgf (.inr (4, [v0, v1])) 4 0 F = F v0 := rfl
theorem zp4_0 : zpf (.inr (4, [v0, v1])) 4 0 v G = G (.inr (4, [v, v1])) := rfl
theorem zg4_1 : zgf (.inr (4, [v0, v1])) 4 1 F = F v1 := rfl
theorem zp4_1 : zpf (.inr (4, [v0, v1])) 4 1 v G = G (.inr (4, [v0, v])) := rfl
theorem zg5_0 : zgf (.inr (5, [v0, v1, v2, v3, v4, v5, v6, v7, v8, v9, v10, v11, v12, v13, v14, v15])) 5 0 F = F v0 := rfl
theorem zp5_0 : zpf (.inr (5, [v0, v1, v2, v3, v4, v5, v6, v7, v8, v9, v10, v11, v12, v13, v14, v15])) 5 0 v G = G (.inr (5, [v, v1, v2, v3, v4, v5, v6, v7, v8, v9, v10, v11, v12, v13, v14, v15])) := rfl
theorem zg5_1 : zgf (.inr (5, [v0, v1, v2, v3, v4, v5, v6, v7, v8, v9, v10, v11, v12, v13, v14, v15])) 5 1 F = F v1 := rfl
theorem zp5_1 : zpf (.inr (5, [v0, v1, v2, v3, v4, v5, v6, v7, v8, v9, v10, v11, v12, v13, v14, v15])) 5 1 v G = G (.inr (5, [v0, v, v2, v3, v4, v5, v6, v7, v8, v9, v10, v11, v12, v13, v14, v15])) := rfl
theorem zg5_2 : zgf (.inr (5, [v0, v1, v2, v3, v4, v5, v6, v7, v8, v9, v10, v11, v12, v13, v14, v15])) 5 2 F = F v2 := rfl
theorem zp5_2 : zpf (.inr (5, [v0, v1, v2, v3, v4, v5, v6, v7, v8, v9, v10, v11, v12, v13, v14, v15])) 5 2 v G = G (.inr (5, [v0, v1, v, v3, v4, v5, v6, v7, v8, v9, v10, v11, v12, v13, v14, v15])) := rfl
theorem zg5_3 : zgf (.inr (5, [v0, v1, v2, v3, v4, v5, v6, v7, v8, v9, v10, v11, v12, v13, v14, v15])) 5 3 F = F v3 := rfl
theorem zp5_3 : zpf (.inr (5, [v0, v1, v2, v3, v4, v5, v6, v7, v8, v9, v10, v11, v12, v13, v14, v15])) 5 3 v G = G (.inr (5, [v0, v1, v2, v, v4, v5, v6, v7, v8, v9, v10, v11, v12, v13, v14, v15])) := rfl
theorem zg5_4 : zgf (.inr (5, [v0, v1, v2, v3, v4, v5, v6, v7, v8, v9, v10, v11, v12, v13, v14, v15])) 5 4 F = F v4 := rfl
theorem zp5_4 : zpf (.inr (5, [v0, v1, v2, v3, v4, v5, v6, v7, v8, v9, v10, v11, v12, v13, v14, v15])) 5 4 v G = G (.inr (5, [v0, v1, v2, v3, v, v5, v6, v7, v8, v9, v10, v11, v12, v13, v14, v15])) := rfl
theorem zg5_5 : zgf (.inr (5, [v0, v1, v2, v3, v4, v5, v6, v7, v8, v9, v10, v11, v12, v13, v14, v15])) 5 5 F = F v5 := rfl
theorem zp5_5 : zpf (.inr (5, [v0, v1, v2, v3, v4, v5, v6, v7, v8, v9, v10, v11, v12, v13, v14, v15])) 5 5 v G = G (.inr (5, [v0, v1, v2, v3, v4, v, v6, v7, v8, v9, v10, v11, v12, v13, v14, v15])) := rfl
theorem zg5_6 : zgf (.inr (5, [v0, v1, v2, v3, v4, v5, v6, v7, v8, v9, v10, v11, v12, v13, v14, v15])) 5 6 F = F v6 := rfl
theorem zp5_6 : zpf (.inr (5, [v0, v1, v2, v3, v4, v5, v6, v7, v8, v9, v10, v11, v12, v13, v14, v15])) 5 6 v G = G (.inr (5, [v0, v1, v2, v3, v4, v5, v, v7, v8, v9, v10, v11, v12, v13, v14, v15])) := rfl
theorem zg5_7 : zgf (.inr (5, [v0, v1, v2, v3, v4, v5, v6, v7, v8, v9, v10, v11, v12, v13, v14, v15])) 5 7 F = F v7 := rfl
theorem zp5_7 : zpf (.inr (5, [v0, v1, v2, v3, v4, v5, v6, v7, v8, v9, v10, v11, v12, v13, v14, v15])) 5 7 v G = G (.inr (5, [v0, v1, v2, v3, v4, v5, v6, v, v8, v9, v10, v11, v12, v13, v14, v15])) := rfl
theorem zg5_8 : zgf (.inr (5, [v0, v1, v2, v3, v4, v5, v6, v7, v8, v9, v10, v11, v12, v13, v14, v15])) 5 8 F = F v8 := rfl
theorem zp5_8 : zpf (.inr (5, [v0, v1, v2, v3, v4, v5, v6, v7, v8, v9, v10, v11, v12, v13, v14, v15])) 5 8 v G = G (.inr (5, [v0, v1, v2, v3, v4, v5, v6, v7, v, v9, v10, v11, v12, v13, v14, v15])) := rfl
theorem zg5_9 : zgf (.inr (5, [v0, v1, v2, v3, v4, v5, v6, v7, v8, v9, v10, v11, v12, v13, v14, v15])) 5 9 F = F v9 := rfl
theorem zp5_9 : zpf (.inr (5, [v0, v1, v2, v3, v4, v5, v6, v7, v8, v9, v10, v11, v12, v13, v14, v15])) 5 9 v G = G (.inr (5, [v0, v1, v2, v3, v4, v5, v6, v7, v8, v, v10, v11, v12, v13, v14, v15])) := rfl
theorem zg5_10 : zgf (.inr (5, [v0, v1, v2, v3, v4, v5, v6, v7, v8, v9, v10, v11, v12, v13, v14, v15])) 5 10 F = F v10 := rfl
theorem zp5_10 : zpf (.inr (5, [v0, v1, v2, v3, v4, v5, v6, v7, v8, v9, v10, v11, v12, v13, v14, v15])) 5 10 v G = G (.inr (5, [v0, v1, v2, v3, v4, v5, v6, v7, v8, v9, v, v11, v12, v13, v14, v15])) := rfl
theorem zg5_11 : zgf (.inr (5, [v0, v1, v2, v3, v4, v5, v6, v7, v8, v9, v10, v11, v12, v13, v14, v15])) 5 11 F = F v11 := rfl
theorem zp5_11 : zpf (.inr (5, [v0, v1, v2, v3, v4, v5, v6, v7, v8, v9, v10, v11, v12, v13, v14, v15])) 5 11 v G = G (.inr (5, [v0, v1, v2, v3, v4, v5, v6, v7, v8, v9, v10, v, v12, v13, v14, v15])) := rfl
theorem zg5_12 : zgf (.inr (5, [v0, v1, v2, v3, v4, v5, v6, v7, v8, v9, v10, v11, v12, v13, v14, v15])) 5 12 F = F v12 := rfl
theorem zp5_12 : zpf (.inr (5, [v0, v1, v2, v3, v4, v5, v6, v7, v8, v9, v10, v11, v12, v13, v14, v15])) 5 12 v G = G (.inr (5, [v0, v1, v2, v3, v4, v5, v6, v7, v8, v9, v10, v11, v, v13, v14, v15])) := rfl
theorem zg5_13 : zgf (.inr (5, [v0, v1, v2, v3, v4, v5, v6, v7, v8, v9, v10, v11, v12, v13, v14, v15])) 5 13 F = F v13 := rfl
theorem zp5_13 : zpf (.inr (5, [v0, v1, v2, v3, v4, v5, v6, v7, v8, v9, v10, v11, v12, v13, v14, v15])) 5 13 v G = G (.inr (5, [v0, v1, v2, v3, v4, v5, v6, v7, v8, v9, v10, v11, v12, v, v14, v15])) := rfl
theorem zg5_14 : zgf (.inr (5, [v0, v1, v2, v3, v4, v5, v6, v7, v8, v9, v10, v11, v12, v13, v14, v15])) 5 14 F = F v14 := rfl
theorem zp5_14 : zpf (.inr (5, [v0, v1, v2, v3, v4, v5, v6, v7, v8, v9, v10, v11, v12, v13, v14, v15])) 5 14 v G = G (.inr (5, [v0, v1, v2, v3, v4, v5, v6, v7, v8, v9, v10, v11, v12, v13, v, v15])) := rfl
theorem zg5_15 : zgf (.inr (5, [v0, v1, v2, v3, v4, v5, v6, v7, v8, v9, v10, v11, v12, v13, v14, v15])) 5 15 F = F v15 := rfl
theorem zp5_15 : zpf (.inr (5, [v0, v1, v2, v3, v4, v5, v6, v7, v8, v9, v10, v11, v12, v13, v14, v15])) 5 15 v G = G (.inr (5, [v0, v1, v2, v3, v4, v5, v6, v7, v8, v9, v10, v11, v12, v13, v14, v])) := rfl
theorem zg6_0 : zgf (.inr (6, [v0, v1, v2, v3, v4, v5, v6])) 6 0 F = F v0 := rfl
theorem zp6_0 : zpf (.inr (6, [v0, v1, v2, v3, v4, v5, v6])) 6 0 v G = G (.inr (6, [v, v1, v2, v3, v4, v5, v6])) := rfl
theorem zg6_1 : zgf (.inr (6, [v0, v1, v2, v3, v4, v5, v6])) 6 1 F = F v1 := rfl
theorem zp6_1 : zpf (.inr (6, [v0, v1, v2, v3, v4, v5, v6])) 6 1 v G = G (.inr (6, [v0, v, v2, v3, v4, v5, v6])) := rfl
theorem zg6_2 : zgf (.inr (6, [v0, v1, v2, v3, v4, v5, v6])) 6 2 F = F v2 := rfl
theorem zp6_2 : zpf (.inr (6, [v0, v1, v2, v3, v4, v5, v6])) 6 2 v G = G (.inr (6, [v0, v1, v, v3, v4, v5, v6])) := rfl
theorem zg6_3 : zgf (.inr (6, [v0, v1, v2, v3, v4, v5, v6])) 6 3 F = F v3 := rfl
theorem zp6_3 : zpf (.inr (6, [v0, v1, v2, v3, v4, v5, v6])) 6 3 v G = G (.inr (6, [v0, v1, v2, v, v4, v5, v6])) := rfl
theorem zg6_4 : zgf (.inr (6, [v0, v1, v2, v3, v4, v5, v6])) 6 4 F = F v4 := rfl
theorem zp6_4 : zpf (.inr (6, [v0, v1, v2, v3, v4, v5, v6])) 6 4 v G = G (.inr (6, [v0, v1, v2, v3, v, v5, v6])) := rfl
theorem zg6_5 : zgf (.inr (6, [v0, v1, v2, v3, v4, v5, v6])) 6 5 F = F v5 := rfl
theorem zp6_5 : zpf (.inr (6, [v0, v1, v2, v3, v4, v5, v6])) 6 5 v G = G (.inr (6, [v0, v1, v2, v3, v4, v, v6])) := rfl
theorem zg6_6 : zgf (.inr (6, [v0, v1, v2, v3, v4, v5, v6])) 6 6 F = F v6 := rfl
theorem zp6_6 : zpf (.inr (6, [v0, v1, v2, v3, v4, v5, v6])) 6 6 v G = G (.inr (6, [v0, v1, v2, v3, v4, v5, v])) := rfl
theorem zg7_0 : zgf (.inr (7, [v0, v1])) 7 0 F = F v0 := rfl
theorem zp7_0 : zpf (.inr (7, [v0, v1])) 7 0 v G = G (.inr (7, [v, v1])) := rfl
theorem zg7_1 : zgf (.inr (7, [v0, v1])) 7 1 F = F v1 := rfl
theorem zp7_1 : zpf (.inr (7, [v0, v1])) 7 1 v G = G (.inr (7, [v0, v])) := rfl
theorem zg8_0 : zgf (.inr (8, [v0, v1, v2, v3, v4])) 8 0 F = F v0 := rfl
theorem zp8_0 : zpf (.inr (8, [v0, v1, v2, v3, v4])) 8 0 v G = G (.inr (8, [v, v1, v2, v3, v4])) := rfl
theorem zg8_1 : zgf (.inr (8, [v0, v1, v2, v3, v4])) 8 1 F = F v1 := rfl
theorem zp8_1 : zpf (.inr (8, [v0, v1, v2, v3, v4])) 8 1 v G = G (.inr (8, [v0, v, v2, v3, v4])) := rfl
theorem zg8_2 : zgf (.inr (8, [v0, v1, v2, v3, v4])) 8 2 F = F v2 := rfl
theorem zp8_2 : zpf (.inr (8, [v0, v1, v2, v3, v4])) 8 2 v G = G (.inr (8, [v0, v1, v, v3, v4])) := rfl
theorem zg8_3 : zgf (.inr (8, [v0, v1, v2, v3, v4])) 8 3 F = F v3 := rfl
theorem zp8_3 : zpf (.inr (8, [v0, v1, v2, v3, v4])) 8 3 v G = G (.inr (8, [v0, v1, v2, v, v4])) := rfl
theorem zg8_4 : zgf (.inr (8, [v0, v1, v2, v3, v4])) 8 4 F = F v4 := rfl
theorem zp8_4 : zpf (.inr (8, [v0, v1, v2, v3, v4])) 8 4 v G = G (.inr (8, [v0, v1, v2, v3, v])) := rfl
theorem zg9_0 : zgf (.inr (9, [v0, v1, v2, v3, v4, v5, v6, v7, v8, v9, v10, v11, v12, v13, v14, v15, v16])) 9 0 F = F v0 := rfl
theorem zp9_0 : zpf (.inr (9, [v0, v1, v2, v3, v4, v5, v6, v7, v8, v9, v10, v11, v12, v13, v14, v15, v16])) 9 0 v G = G (.inr (9, [v, v1, v2, v3, v4, v5, v6, v7, v8, v9, v10, v11, v12, v13, v14, v15, v16])) := rfl
theorem zg9_1 : zgf (.inr (9, [v0, v1, v2, v3, v4, v5, v6, v7, v8, v9, v10, v11, v12, v13, v14, v15, v16])) 9 1 F = F v1 := rfl
theorem zp9_1 : zpf (.inr (9, [v0, v1, v2, v3, v4, v5, v6, v7, v8, v9, v10, v11, v12, v13, v14, v15, v16])) 9 1 v G = G (.inr (9, [v0, v, v2, v3, v4, v5, v6, v7, v8, v9, v10, v11, v12, v13, v14, v15, v16])) := rfl
theorem zg9_2 : zgf (.inr (9, [v0, v1, v2, v3, v4, v5, v6, v7, v8, v9, v10, v11, v12, v13, v14, v15, v16])) 9 2 F = F v2 := rfl
theorem zp9_2 : zpf (.inr (9, [v0, v1, v2, v3, v4, v5, v6, v7, v8, v9, v10, v11, v12, v13, v14, v15, v16])) 9 2 v G = G (.inr (9, [v0, v1, v, v3, v4, v5, v6, v7, v8, v9, v10, v11, v12, v13, v14, v15, v16])) := rfl
theorem zg9_3 : zgf (.inr (9, [v0, v1, v2, v3, v4, v5, v6, v7, v8, v9, v10, v11, v12, v13, v14, v15, v16])) 9 3 F = F v3 := rfl
theorem zp9_3 : zpf (.inr (9, [v0, v1, v2, v3, v4, v5, v6, v7, v8, v9, v10, v11, v12, v13, v14, v15, v16])) 9 3 v G = G (.inr (9, [v0, v1, v2, v, v4, v5, v6, v7, v8, v9, v10, v11, v12, v13, v14, v15, v16])) := rfl
theorem zg9_4 : zgf (.inr (9, [v0, v1, v2, v3, v4, v5, v6, v7, v8, v9, v10, v11, v12, v13, v14, v15, v16])) 9 4 F = F v4 := rfl
theorem zp9_4 : zpf (.inr (9, [v0, v1, v2, v3, v4, v5, v6, v7, v8, v9, v10, v11, v12, v13, v14, v15, v16])) 9 4 v G = G (.inr (9, [v0, v1, v2, v3, v, v5, v6, v7, v8, v9, v10, v11, v12, v13, v14, v15, v16])) := rfl
theorem zg9_5 : zgf (.inr (9, [v0, v1, v2, v3, v4, v5, v6, v7, v8, v9, v10, v11, v12, v13, v14, v15, v16])) 9 5 F = F v5 := rfl
theorem zp9_5 : zpf (.inr (9, [v0, v1, v2, v3, v4, v5, v6, v7, v8, v9, v10, v11, v12, v13, v14, v15, v16])) 9 5 v G = G (.inr (9, [v0, v1, v2, v3, v4, v, v6, v7, v8, v9, v10, v11, v12, v13, v14, v15, v16])) := rfl
theorem zg9_6 : zgf (.inr (9, [v0, v1, v2, v3, v4, v5, v6, v7, v8, v9, v10, v11, v12, v13, v14, v15, v16])) 9 6 F = F v6 := rfl
theorem zp9_6 : zpf (.inr (9, [v0, v1, v2, v3, v4, v5, v6, v7, v8, v9, v10, v11, v12, v13, v14, v15, v16])) 9 6 v G = G (.inr (9, [v0, v1, v2, v3, v4, v5, v, v7, v8, v9, v10, v11, v12, v13, v14, v15, v16])) := rfl
theorem zg9_7 : zgf (.inr (9, [v0, v1, v2, v3, v4, v5, v6, v7, v8, v9, v10, v11, v12, v13, v14, v15, v16])) 9 7 F = F v7 := rfl
theorem zp9_7 : zpf (.inr (9, [v0, v1, v2, v3, v4, v5, v6, v7, v8, v9, v10, v11, v12, v13, v14, v15, v16])) 9 7 v G = G (.inr (9, [v0, v1, v2, v3, v4, v5, v6, v, v8, v9, v10, v11, v12, v13, v14, v15, v16])) := rfl
theorem zg9_8 : zgf (.inr (9, [v0, v1, v2, v3, v4, v5, v6, v7, v8, v9, v10, v11, v12, v13, v14, v15, v16])) 9 8 F = F v8 := rfl
theorem zp9_8 : zpf (.inr (9, [v0, v1, v2, v3, v4, v5, v6, v7, v8, v9, v10, v11, v12, v13, v14, v15, v16])) 9 8 v G = G (.inr (9, [v0, v1, v2, v3, v4, v5, v6, v7, v, v9, v10, v11, v12, v13, v14, v15, v16])) := rfl
theorem zg9_9 : zgf (.inr (9, [v0, v1, v2, v3, v4, v5, v6, v7, v8, v9, v10, v11, v12, v13, v14, v15, v16])) 9 9 F = F v9 := rfl
theorem zp9_9 : zpf (.inr (9, [v0, v1, v2, v3, v4, v5, v6, v7, v8, v9, v10, v11, v12, v13, v14, v15, v16])) 9 9 v G = G (.inr (9, [v0, v1, v2, v3, v4, v5, v6, v7, v8, v, v10, v11, v12, v13, v14, v15, v16])) := rfl
theorem zg9_10 : zgf (.inr (9, [v0, v1, v2, v3, v4, v5, v6, v7, v8, v9, v10, v11, v12, v13, v14, v15, v16])) 9 10 F = F v10 := rfl
theorem zp9_10 : zpf (.inr (9, [v0, v1, v2, v3, v4, v5, v6, v7, v8, v9, v10, v11, v12, v13, v14, v15, v16])) 9 10 v G = G (.inr (9, [v0, v1, v2, v3, v4, v5, v6, v7, v8, v9, v, v11, v12, v13, v14, v15, v16])) := rfl
theorem zg9_11 : zgf (.inr (9, [v0, v1, v2, v3, v4, v5, v6, v7, v8, v9, v10, v11, v12, v13, v14, v15, v16])) 9 11 F = F v11 := rfl
theorem zp9_11 : zpf (.inr (9, [v0, v1, v2, v3, v4, v5, v6, v7, v8, v9, v10, v11, v12, v13, v14, v15, v16])) 9 11 v G = G (.inr (9, [v0, v1, v2, v3, v4, v5, v6, v7, v8, v9, v10, v, v12, v13, v14, v15, v16])) := rfl
theorem zg9_12 : zgf (.inr (9, [v0, v1, v2, v3, v4, v5, v6, v7, v8, v9, v10, v11, v12, v13, v14, v15, v16])) 9 12 F = F v12 := rfl
theorem zp9_12 : zpf (.inr (9, [v0, v1, v2, v3, v4, v5, v6, v7, v8, v9, v10, v11, v12, v13, v14, v15, v16])) 9 12 v G = G (.inr (9, [v0, v1, v2, v3, v4, v5, v6, v7, v8, v9, v10, v11, v, v13, v14, v15, v16])) := rfl
theorem zg9_13 : zgf (.inr (9, [v0, v1, v2, v3, v4, v5, v6, v7, v8, v9, v10, v11, v12, v13, v14, v15, v16])) 9 13 F = F v13 := rfl
theorem zp9_13 : zpf (.inr (9, [v0, v1, v2, v3, v4, v5, v6, v7, v8, v9, v10, v11, v12, v13, v14, v15, v16])) 9 13 v G = G (.inr (9, [v0, v1, v2, v3, v4, v5, v6, v7, v8, v9, v10, v11, v12, v, v14, v15, v16])) := rfl
theorem zg9_14 : zgf (.inr (9, [v0, v1, v2, v3, v4, v5, v6, v7, v8, v9, v10, v11, v12, v13, v14, v15, v16])) 9 14 F = F v14 := rfl
theorem zp9_14 : zpf (.inr (9, [v0, v1, v2, v3, v4, v5, v6, v7, v8, v9, v10, v11, v12, v13, v14, v15, v16])) 9 14 v G = G (.inr (9, [v0, v1, v2, v3, v4, v5, v6, v7, v8, v9, v10, v11, v12, v13, v, v15, v16])) := rfl
theorem zg9_15 : zgf (.inr (9, [v0, v1, v2, v3, v4, v5, v6, v7, v8, v9, v10, v11, v12, v13, v14, v15, v16])) 9 15 F = F v15 := rfl
theorem zp9_15 : zpf (.inr (9, [v0, v1, v2, v3, v4, v5, v6, v7, v8, v9, v10, v11, v12, v13, v14, v15, v16])) 9 15 v G = G (.inr (9, [v0, v1, v2, v3, v4, v5, v6, v7, v8, v9, v10, v11, v12, v13, v14, v, v16])) := rfl
theorem zg9_16 : zgf (.inr (9, [v0, v1, v2, v3, v4, v5, v6, v7, v8, v9, v10, v11, v12, v13, v14, v15, v16])) 9 16 F = F v16 := rfl
theorem zp9_16 : zpf (.inr (9, [v0, v1, v2, v3, v4, v5, v6, v7, v8, v9, v10, v11, v12, v13, v14, v15, v16])) 9 16 v G = G (.inr (9, [v0, v1, v2, v3, v4, v5, v6, v7, v8, v9, v10, v11, v12, v13, v14, v15, v])) := rfl
theorem zg10_0 : zgf (.inr (10, [v0, v1, v2, v3, v4, v5, v6, v7, v8, v9, v10, v11, v12, v13, v14, v15, v16, v17, v18, v19, v20, v21, v22, v23, v24, v25, v26, v27, v28, v29, v30, v31, v32])) 10 0 F = F v0 := rfl
theorem zp10_0 : zpf (.inr (10, [v0, v1, v2, v3, v4, v5, v6, v7, v8, v9, v10, v11, v12, v13, v14, v15, v16, v17, v18, v19, v20, v21, v22, v23, v24, v25, v26, v27, v28, v29, v30, v31, v32])) 10 0 v G = G (.inr (10, [v, v1, v2, v3, v4, v5, v6, v7, v8, v9, v10, v11, v12, v13, v14, v15, v16, v17, v18, v19, v20, v21, v22, v23, v24, v25, v26, v27, v28, v29, v30, v31, v32])) := rfl
theorem zg10_1 : zgf (.inr (10, [v0, v1, v2, v3, v4, v5, v6, v7, v8, v9, v10, v11, v12, v13, v14, v15, v16, v17, v18, v19, v20, v21, v22, v23, v24, v25, v26, v27, v28, v29, v30, v31, v32])) 10 1 F = F v1 := rfl
theorem zp10_1 : zpf (.inr (10, [v0, v1, v2, v3, v4, v5, v6, v7, v8, v9, v10, v11, v12, v13, v14, v15, v16, v17, v18, v19, v20, v21, v22, v23, v24, v25, v26, v27, v28, v29, v30, v31, v32])) 10 1 v G = G (.inr (10, [v0, v, v2, v3, v4, v5, v6, v7, v8, v9, v10, v11, v12, v13, v14, v15, v16, v17, v18, v19, v20, v21, v22, v23, v24, v25, v26, v27, v28, v29, v30, v31, v32])) := rfl
theorem zg10_2 : zgf (.inr (10, [v0, v1, v2, v3, v4, v5, v6, v7, v8, v9, v10, v11, v12, v13, v14, v15, v16, v17, v18, v19, v20, v21, v22, v23, v24, v25, v26, v27, v28, v29, v30, v31, v32])) 10 2 F = F v2 := rfl
theorem zp10_2 : zpf (.inr (10, [v0, v1, v2, v3, v4, v5, v6, v7, v8, v9, v10, v11, v12, v13, v14, v15, v16, v17, v18, v19, v20, v21, v22, v23, v24, v25, v26, v27, v28, v29, v30, v31, v32])) 10 2 v G = G (.inr (10, [v0, v1, v, v3, v4, v5, v6, v7, v8, v9, v10, v11, v12, v13, v14, v15, v16, v17, v18, v19, v20, v21, v22, v23, v24, v25, v26, v27, v28, v29, v30, v31, v32])) := rfl
theorem zg10_3 : zgf (.inr (10, [v0, v1, v2, v3, v4, v5, v6, v7, v8, v9, v10, v11, v12, v13, v14, v15, v16, v17, v18, v19, v20, v21, v22, v23, v24, v25, v26, v27, v28, v29, v30, v31, v32])) 10 3 F = F v3 := rfl
theorem zp10_3 : zpf (.inr (10, [v0, v1, v2, v3, v4, v5, v6, v7, v8, v9, v10, v11, v12, v13, v14, v15, v16, v17, v18, v19, v20, v21, v22, v23, v24, v25, v26, v27, v28, v29, v30, v31, v32])) 10 3 v G = G (.inr (10, [v0, v1, v2, v, v4, v5, v6, v7, v8, v9, v10, v11, v12, v13, v14, v15, v16, v17, v18, v19, v20, v21, v22, v23, v24, v25, v26, v27, v28, v29, v30, v31, v32])) := rfl
theorem zg10_4 : zgf (.inr (10, [v0, v1, v2, v3, v4, v5, v6, v7, v8, v9, v10, v11, v12, v13, v14, v15, v16, v17, v18, v19, v20, v21, v22, v23, v24, v25, v26, v27, v28, v29, v30, v31, v32])) 10 4 F = F v4 := rfl
theorem zp10_4 : zpf (.inr (10, [v0, v1, v2, v3, v4, v5, v6, v7, v8, v9, v10, v11, v12, v13, v14, v15, v16, v17, v18, v19, v20, v21, v22, v23, v24, v25, v26, v27, v28, v29, v30, v31, v32])) 10 4 v G = G (.inr (10, [v0, v1, v2, v3, v, v5, v6, v7, v8, v9, v10, v11, v12, v13, v14, v15, v16, v17, v18, v19, v20, v21, v22, v23, v24, v25, v26, v27, v28, v29, v30, v31, v32])) := rfl
theorem zg10_5 : zgf (.inr (10, [v0, v1, v2, v3, v4, v5, v6, v7, v8, v9, v10, v11, v12, v13, v14, v15, v16, v17, v18, v19, v20, v21, v22, v23, v24, v25, v26, v27, v28, v29, v30, v31, v32])) 10 5 F = F v5 := rfl
theorem zp10_5 : zpf (.inr (10, [v0, v1, v2, v3, v4, v5, v6, v7, v8, v9, v10, v11, v12, v13, v14, v15, v16, v17, v18, v19, v20, v21, v22, v23, v24, v25, v26, v27, v28, v29, v30, v31, v32])) 10 5 v G = G (.inr (10, [v0, v1, v2, v3, v4, v, v6, v7, v8, v9, v10, v11, v12, v13, v14, v15, v16, v17, v18, v19, v20, v21, v22, v23, v24, v25, v26, v27, v28, v29, v30, v31, v32])) := rfl
theorem zg10_6 : zgf (.inr (10, [v0, v1, v2, v3, v4, v5, v6, v7, v8, v9, v10, v11, v12, v13, v14, v15, v16, v17, v18, v19, v20, v21, v22, v23, v24, v25, v26, v27, v28, v29, v30, v31, v32])) 10 6 F = F v6 := rfl
theorem zp10_6 : zpf (.inr (10, [v0, v1, v2, v3, v4, v5, v6, v7, v8, v9, v10, v11, v12, v13, v14, v15, v16, v17, v18, v19, v20, v21, v22, v23, v24, v25, v26, v27, v28, v29, v30, v31, v32])) 10 6 v G = G (.inr (10, [v0, v1, v2, v3, v4, v5, v, v7, v8, v9, v10, v11, v12, v13, v14, v15, v16, v17, v18, v19, v20, v21, v22, v23, v24, v25, v26, v27, v28, v29, v30, v31, v32])) := rfl
theorem zg10_7 : zgf (.inr (10, [v0, v1, v2, v3, v4, v5, v6, v7, v8, v9, v10, v11, v12, v13, v14, v15, v16, v17, v18, v19, v20, v21, v22, v23, v24, v25, v26, v27, v28, v29, v30, v31, v32])) 10 7 F = F v7 := rfl
theorem zp10_7 : zpf (.inr (10, [v0, v1, v2, v3, v4, v5, v6, v7, v8, v9, v10, v11, v12, v13, v14, v15, v16, v17, v18, v19, v20, v21, v22, v23, v24, v25, v26, v27, v28, v29, v30, v31, v32])) 10 7 v G = G (.inr (10, [v0, v1, v2, v3, v4, v5, v6, v, v8, v9, v10, v11, v12, v13, v14, v15, v16, v17, v18, v19, v20, v21, v22, v23, v24, v25, v26, v27, v28, v29, v30, v31, v32])) := rfl
theorem zg10_8 : zgf (.inr (10, [v0, v1, v2, v3, v4, v5, v6, v7, v8, v9, v10, v11, v12, v13, v14, v15, v16, v17, v18, v19, v20, v21, v22, v23, v24, v25, v26, v27, v28, v29, v30, v31, v32])) 10 8 F = F v8 := rfl
theorem zp10_8 : zpf (.inr (10, [v0, v1, v2, v3, v4, v5, v6, v7, v8, v9, v10, v11, v12, v13, v14, v15, v16, v17, v18, v19, v20, v21, v22, v23, v24, v25, v26, v27, v28, v29, v30, v31, v32])) 10 8 v G = G (.inr (10, [v0, v1, v2, v3, v4, v5, v6, v7, v, v9, v10, v11, v12, v13, v14, v15, v16, v17, v18, v19, v20, v21, v22, v23, v24, v25, v26, v27, v28, v29, v30, v31, v32])) := rfl
theorem zg10_9 : zgf (.inr (10, [v0, v1, v2, v3, v4, v5, v6, v7, v8, v9, v10, v11, v12, v13, v14, v15, v16, v17, v18, v19, v20, v21, v22, v23, v24, v25, v26, v27, v28, v29, v30, v31, v32])) 10 9 F = F v9 := rfl
theorem zp10_9 : zpf (.inr (10, [v0, v1, v2, v3, v4, v5, v6, v7, v8, v9, v10, v11, v12, v13, v14, v15, v16, v17, v18, v19, v20, v21, v22, v23, v24, v25, v26, v27, v28, v29, v30, v31, v32])) 10 9 v G = G (.inr (10, [v0, v1, v2, v3, v4, v5, v6, v7, v8, v, v10, v11, v12, v13, v14, v15, v16, v17, v18, v19, v20, v21, v22, v23, v24, v25, v26, v27, v28, v29, v30, v31, v32])) := rfl
theorem zg10_10 : zgf (.inr (10, [v0, v1, v2, v3, v4, v5, v6, v7, v8, v9, v10, v11, v12, v13, v14, v15, v16, v17, v18, v19, v20, v21, v22, v23, v24, v25, v26, v27, v28, v29, v30, v31, v32])) 10 10 F = F v10 := rfl
theorem zp10_10 : zpf (.inr (10, [v0, v1, v2, v3, v4, v5, v6, v7, v8, v9, v10, v11, v12, v13, v14, v15, v16, v17, v18, v19, v20, v21, v22, v23, v24, v25, v26, v27, v28, v29, v30, v31, v32])) 10 10 v G = G (.inr (10, [v0, v1, v2, v3, v4, v5, v6, v7, v8, v9, v, v11, v12, v13, v14, v15, v16, v17, v18, v19, v20, v21, v22, v23, v24, v25, v26, v27, v28, v29, v30, v31, v32])) := rfl
theorem zg10_11 : zgf (.inr (10, [v0, v1, v2, v3, v4, v5, v6, v7, v8, v9, v10, v11, v12, v13, v14, v15, v16, v17, v18, v19, v20, v21, v22, v23, v24, v25, v26, v27, v28, v29, v30, v31, v32])) 10 11 F = F v11 := rfl
theorem zp10_11 : zpf (.inr (10, [v0, v1, v2, v3, v4, v5, v6, v7, v8, v9, v10, v11, v12, v13, v14, v15, v16, v17, v18, v19, v20, v21, v22, v23, v24, v25, v26, v27, v28, v29, v30, v31, v32])) 10 11 v G = G (.inr (10, [v0, v1, v2, v3, v4, v5, v6, v7, v8, v9, v10, v, v12, v13, v14, v15, v16, v17, v18, v19, v20, v21, v22, v23, v24, v25, v26, v27, v28, v29, v30, v31, v32])) := rfl
theorem zg10_12 : zgf (.inr (10, [v0, v1, v2, v3, v4, v5, v6, v7, v8, v9, v10, v11, v12, v13, v14, v15, v16, v17, v18, v19, v20, v21, v22, v23, v24, v25, v26, v27, v28, v29, v30, v31, v32])) 10 12 F = F v12 := rfl
theorem zp10_12 : zpf (.inr (10, [v0, v1, v2, v3, v4, v5, v6, v7, v8, v9, v10, v11, v12, v13, v14, v15, v16, v17, v18, v19, v20, v21, v22, v23, v24, v25, v26, v27, v28, v29, v30, v31, v32])) 10 12 v G = G (.inr (10, [v0, v1, v2, v3, v4, v5, v6, v7, v8, v9, v10, v11, v, v13, v14, v15, v16, v17, v18, v19, v20, v21, v22, v23, v24, v25, v26, v27, v28, v29, v30, v31, v32])) := rfl
theorem zg10_13 : zgf (.inr (10, [v0, v1, v2, v3, v4, v5, v6, v7, v8, v9, v10, v11, v12, v13, v14, v15, v16, v17, v18, v19, v20, v21, v22, v23, v24, v25, v26, v27, v28, v29, v30, v31, v32])) 10 13 F = F v13 := rfl
theorem zp10_13 : zpf (.inr (10, [v0, v1, v2, v3, v4, v5, v6, v7, v8, v9, v10, v11, v12, v13, v14, v15, v16, v17, v18, v19, v20, v21, v22, v23, v24, v25, v26, v27, v28, v29, v30, v31, v32])) 10 13 v G = G (.inr (10, [v0, v1, v2, v3, v4, v5, v6, v7, v8, v9, v10, v11, v12, v, v14, v15, v16, v17, v18, v19, v20, v21, v22, v23, v24, v25, v26, v27, v28, v29, v30, v31, v32])) := rfl
theorem zg10_14 : zgf (.inr (10, [v0, v1, v2, v3, v4, v5, v6, v7, v8, v9, v10, v11, v12, v13, v14, v15, v16, v17, v18, v19, v20, v21, v22, v23, v24, v25, v26, v27, v28, v29, v30, v31, v32])) 10 14 F = F v14 := rfl
theorem zp10_14 : zpf (.inr (10, [v0, v1, v2, v3, v4, v5, v6, v7, v8, v9, v10, v11, v12, v13, v14, v15, v16, v17, v18, v19, v20, v21, v22, v23, v24, v25, v26, v27, v28, v29, v30, v31, v32])) 10 14 v G = G (.inr (10, [v0, v1, v2, v3, v4, v5, v6, v7, v8, v9, v10, v11, v12, v13, v, v15, v16, v17, v18, v19, v20, v21, v22, v23, v24, v25, v26, v27, v28, v29, v30, v31, v32])) := rfl
theorem zg10_15 : zgf (.inr (10, [v0, v1, v2, v3, v4, v5, v6, v7, v8, v9, v10, v11, v12, v13, v14, v15, v16, v17, v18, v19, v20, v21, v22, v23, v24, v25, v26, v27, v28, v29, v30, v31, v32])) 10 15 F = F v15 := rfl
theorem zp10_15 : zpf (.inr (10, [v0, v1, v2, v3, v4, v5, v6, v7, v8, v9, v10, v11, v12, v13, v14, v15, v16, v17, v18, v19, v20, v21, v22, v23, v24, v25, v26, v27, v28, v29, v30, v31, v32])) 10 15 v G = G (.inr (10, [v0, v1, v2, v3, v4, v5, v6, v7, v8, v9, v10, v11, v12, v13, v14, v, v16, v17, v18, v19, v20, v21, v22, v23, v24, v25, v26, v27, v28, v29, v30, v31, v32])) := rfl
theorem zg10_16 : zgf (.inr (10, [v0, v1, v2, v3, v4, v5, v6, v7, v8, v9, v10, v11, v12, v13, v14, v15, v16, v17, v18, v19, v20, v21, v22, v23, v24, v25, v26, v27, v28, v29, v30, v31, v32])) 10 16 F = F v16 := rfl
theorem zp10_16 : zpf (.inr (10, [v0, v1, v2, v3, v4, v5, v6, v7, v8, v9, v10, v11, v12, v13, v14, v15, v16, v17, v18, v19, v20, v21, v22, v23, v24, v25, v26, v27, v28, v29, v30, v31, v32])) 10 16 v G = G (.inr (10, [v0, v1, v2, v3, v4, v5, v6, v7, v8, v9, v10, v11, v12, v13, v14, v15, v, v17, v18, v19, v20, v21, v22, v23, v24, v25, v26, v27, v28, v29, v30, v31, v32])) := rfl
theorem zg10_17 : zgf (.inr (10, [v0, v1, v2, v3, v4, v5, v6, v7, v8, v9, v10, v11, v12, v13, v14, v15, v16, v17, v18, v19, v20, v21, v22, v23, v24, v25, v26, v27, v28, v29, v30, v31, v32])) 10 17 F = F v17 := rfl
theorem zp10_17 : zpf (.inr (10, [v0, v1, v2, v3, v4, v5, v6, v7, v8, v9, v10, v11, v12, v13, v14, v15, v16, v17, v18, v19, v20, v21, v22, v23, v24, v25, v26, v27, v28, v29, v30, v31, v32])) 10 17 v G = G (.inr (10, [v0, v1, v2, v3, v4, v5, v6, v7, v8, v9, v10, v11, v12, v13, v14, v15, v16, v, v18, v19, v20, v21, v22, v23, v24, v25, v26, v27, v28, v29, v30, v31, v32])) := rfl
theorem zg10_18 : zgf (.inr (10, [v0, v1, v2, v3, v4, v5, v6, v7, v8, v9, v10, v11, v12, v13, v14, v15, v16, v17, v18, v19, v20, v21, v22, v23, v24, v25, v26, v27, v28, v29, v30, v31, v32])) 10 18 F = F v18 := rfl
theorem zp10_18 : zpf (.inr (10, [v0, v1, v2, v3, v4, v5, v6, v7, v8, v9, v10, v11, v12, v13, v14, v15, v16, v17, v18, v19, v20, v21, v22, v23, v24, v25, v26, v27, v28, v29, v30, v31, v32])) 10 18 v G = G (.inr (10, [v0, v1, v2, v3, v4, v5, v6, v7, v8, v9, v10, v11, v12, v13, v14, v15, v16, v17, v, v19, v20, v21, v22, v23, v24, v25, v26, v27, v28, v29, v30, v31, v32])) := rfl
theorem zg10_19 : zgf (.inr (10, [v0, v1, v2, v3, v4, v5, v6, v7, v8, v9, v10, v11, v12, v13, v14, v15, v16, v17, v18, v19, v20, v21, v22, v23, v24, v25, v26, v27, v28, v29, v30, v31, v32])) 10 19 F = F v19 := rfl
theorem zp10_19 : zpf (.inr (10, [v0, v1, v2, v3, v4, v5, v6, v7, v8, v9, v10, v11, v12, v13, v14, v15, v16, v17, v18, v19, v20, v21, v22, v23, v24, v25, v26, v27, v28, v29, v30, v31, v32])) 10 19 v G = G (.inr (10, [v0, v1, v2, v3, v4, v5, v6, v7, v8, v9, v10, v11, v12, v13, v14, v15, v16, v17, v18, v, v20, v21, v22, v23, v24, v25, v26, v27, v28, v29, v30, v31, v32])) := rfl
theorem zg10_20 : zgf (.inr (10, [v0, v1, v2, v3, v4, v5, v6, v7, v8, v9, v10, v11, v12, v13, v14, v15, v16, v17, v18, v19, v20, v21, v22, v23, v24, v25, v26, v27, v28, v29, v30, v31, v32])) 10 20 F = F v20 := rfl
theorem zp10_20 : zpf (.inr (10, [v0, v1, v2, v3, v4, v5, v6, v7, v8, v9, v10, v11, v12, v13, v14, v15, v16, v17, v18, v19, v20, v21, v22, v23, v24, v25, v26, v27, v28, v29, v30, v31, v32])) 10 20 v G = G (.inr (10, [v0, v1, v2, v3, v4, v5, v6, v7, v8, v9, v10, v11, v12, v13, v14, v15, v16, v17, v18, v19, v, v21, v22, v23, v24, v25, v26, v27, v28, v29, v30, v31, v32])) := rfl
theorem zg10_21 : zgf (.inr (10, [v0, v1, v2, v3, v4, v5, v6, v7, v8, v9, v10, v11, v12, v13, v14, v15, v16, v17, v18, v19, v20, v21, v22, v23, v24, v25, v26, v27, v28, v29, v30, v31, v32])) 10 21 F = F v21 := rfl
theorem zp10_21 : zpf (.inr (10, [v0, v1, v2, v3, v4, v5, v6, v7, v8, v9, v10, v11, v12, v13, v14, v15, v16, v17, v18, v19, v20, v21, v22, v23, v24, v25, v26, v27, v28, v29, v30, v31, v32])) 10 21 v G = G (.inr (10, [v0, v1, v2, v3, v4, v5, v6, v7, v8, v9, v10, v11, v12, v13, v14, v15, v16, v17, v18, v19, v20, v, v22, v23, v24, v25, v26, v27, v28, v29, v30, v31, v32])) := rfl
theorem zg10_22 : zgf (.inr (10, [v0, v1, v2, v3, v4, v5, v6, v7, v8, v9, v10, v11, v12, v13, v14, v15, v16, v17, v18, v19, v20, v21, v22, v23, v24, v25, v26, v27, v28, v29, v30, v31, v32])) 10 22 F = F v22 := rfl
theorem zp10_22 : zpf (.inr (10, [v0, v1, v2, v3, v4, v5, v6, v7, v8, v9, v10, v11, v12, v13, v14, v15, v16, v17, v18, v19, v20, v21, v22, v23, v24, v25, v26, v27, v28, v29, v30, v31, v32])) 10 22 v G = G (.inr (10, [v0, v1, v2, v3, v4, v5, v6, v7, v8, v9, v10, v11, v12, v13, v14, v15, v16, v17, v18, v19, v20, v21, v, v23, v24, v25, v26, v27, v28, v29, v30, v31, v32])) := rfl
theorem zg10_23 : zgf (.inr (10, [v0, v1, v2, v3, v4, v5, v6, v7, v8, v9, v10, v11, v12, v13, v14, v15, v16, v17, v18, v19, v20, v21, v22, v23, v24, v25, v26, v27, v28, v29, v30, v31, v32])) 10 23 F = F v23 := rfl
theorem zp10_23 : zpf (.inr (10, [v0, v1, v2, v3, v4, v5, v6, v7, v8, v9, v10, v11, v12, v13, v14, v15, v16, v17, v18, v19, v20, v21, v22, v23, v24, v25, v26, v27, v28, v29, v30, v31, v32])) 10 23 v G = G (.inr (10, [v0, v1, v2, v3, v4, v5, v6, v7, v8, v9, v10, v11, v12, v13, v14, v15, v16, v17, v18, v19, v20, v21, v22, v, v24, v25, v26, v27, v28, v29, v30, v31, v32])) := rfl
theorem zg10_24 : zgf (.inr (10, [v0, v1, v2, v3, v4, v5, v6, v7, v8, v9, v10, v11, v12, v13, v14, v15, v16, v17, v18, v19, v20, v21, v22, v23, v24, v25, v26, v27, v28, v29, v30, v31, v32])) 10 24 F = F v24 := rfl
theorem zp10_24 : zpf (.inr (10, [v0, v1, v2, v3, v4, v5, v6, v7, v8, v9, v10, v11, v12, v13, v14, v15, v16, v17, v18, v19, v20, v21, v22, v23, v24, v25, v26, v27, v28, v29, v30, v31, v32])) 10 24 v G = G (.inr (10, [v0, v1, v2, v3, v4, v5, v6, v7, v8, v9, v10, v11, v12, v13, v14, v15, v16, v17, v18, v19, v20, v21, v22, v23, v, v25, v26, v27, v28, v29, v30, v31, v32])) := rfl
theorem zg10_25 : zgf (.inr (10, [v0, v1, v2, v3, v4, v5, v6, v7, v8, v9, v10, v11, v12, v13, v14, v15, v16, v17, v18, v19, v20, v21, v22, v23, v24, v25, v26, v27, v28, v29, v30, v31, v32])) 10 25 F = F v25 := rfl
theorem zp10_25 : zpf (.inr (10, [v0, v1, v2, v3, v4, v5, v6, v7, v8, v9, v10, v11, v12, v13, v14, v15, v16, v17, v18, v19, v20, v21, v22, v23, v24, v25, v26, v27, v28, v29, v30, v31, v32])) 10 25 v G = G (.inr (10, [v0, v1, v2, v3, v4, v5, v6, v7, v8, v9, v10, v11, v12, v13, v14, v15, v16, v17, v18, v19, v20, v21, v22, v23, v24, v, v26, v27, v28, v29, v30, v31, v32])) := rfl
theorem zg10_26 : zgf (.inr (10, [v0, v1, v2, v3, v4, v5, v6, v7, v8, v9, v10, v11, v12, v13, v14, v15, v16, v17, v18, v19, v20, v21, v22, v23, v24, v25, v26, v27, v28, v29, v30, v31, v32])) 10 26 F = F v26 := rfl
theorem zp10_26 : zpf (.inr (10, [v0, v1, v2, v3, v4, v5, v6, v7, v8, v9, v10, v11, v12, v13, v14, v15, v16, v17, v18, v19, v20, v21, v22, v23, v24, v25, v26, v27, v28, v29, v30, v31, v32])) 10 26 v G = G (.inr (10, [v0, v1, v2, v3, v4, v5, v6, v7, v8, v9, v10, v11, v12, v13, v14, v15, v16, v17, v18, v19, v20, v21, v22, v23, v24, v25, v, v27, v28, v29, v30, v31, v32])) := rfl
theorem zg10_27 : zgf (.inr (10, [v0, v1, v2, v3, v4, v5, v6, v7, v8, v9, v10, v11, v12, v13, v14, v15, v16, v17, v18, v19, v20, v21, v22, v23, v24, v25, v26, v27, v28, v29, v30, v31, v32])) 10 27 F = F v27 := rfl
theorem zp10_27 : zpf (.inr (10, [v0, v1, v2, v3, v4, v5, v6, v7, v8, v9, v10, v11, v12, v13, v14, v15, v16, v17, v18, v19, v20, v21, v22, v23, v24, v25, v26, v27, v28, v29, v30, v31, v32])) 10 27 v G = G (.inr (10, [v0, v1, v2, v3, v4, v5, v6, v7, v8, v9, v10, v11, v12, v13, v14, v15, v16, v17, v18, v19, v20, v21, v22, v23, v24, v25, v26, v, v28, v29, v30, v31, v32])) := rfl
theorem zg10_28 : zgf (.inr (10, [v0, v1, v2, v3, v4, v5, v6, v7, v8, v9, v10, v11, v12, v13, v14, v15, v16, v17, v18, v19, v20, v21, v22, v23, v24, v25, v26, v27, v28, v29, v30, v31, v32])) 10 28 F = F v28 := rfl
theorem zp10_28 : zpf (.inr (10, [v0, v1, v2, v3, v4, v5, v6, v7, v8, v9, v10, v11, v12, v13, v14, v15, v16, v17, v18, v19, v20, v21, v22, v23, v24, v25, v26, v27, v28, v29, v30, v31, v32])) 10 28 v G = G (.inr (10, [v0, v1, v2, v3, v4, v5, v6, v7, v8, v9, v10, v11, v12, v13, v14, v15, v16, v17, v18, v19, v20, v21, v22, v23, v24, v25, v26, v27, v, v29, v30, v31, v32])) := rfl
theorem zg10_29 : zgf (.inr (10, [v0, v1, v2, v3, v4, v5, v6, v7, v8, v9, v10, v11, v12, v13, v14, v15, v16, v17, v18, v19, v20, v21, v22, v23, v24, v25, v26, v27, v28, v29, v30, v31, v32])) 10 29 F = F v29 := rfl
theorem zp10_29 : zpf (.inr (10, [v0, v1, v2, v3, v4, v5, v6, v7, v8, v9, v10, v11, v12, v13, v14, v15, v16, v17, v18, v19, v20, v21, v22, v23, v24, v25, v26, v27, v28, v29, v30, v31, v32])) 10 29 v G = G (.inr (10, [v0, v1, v2, v3, v4, v5, v6, v7, v8, v9, v10, v11, v12, v13, v14, v15, v16, v17, v18, v19, v20, v21, v22, v23, v24, v25, v26, v27, v28, v, v30, v31, v32])) := rfl
theorem zg10_30 : zgf (.inr (10, [v0, v1, v2, v3, v4, v5, v6, v7, v8, v9, v10, v11, v12, v13, v14, v15, v16, v17, v18, v19, v20, v21, v22, v23, v24, v25, v26, v27, v28, v29, v30, v31, v32])) 10 30 F = F v30 := rfl
theorem zp10_30 : zpf (.inr (10, [v0, v1, v2, v3, v4, v5, v6, v7, v8, v9, v10, v11, v12, v13, v14, v15, v16, v17, v18, v19, v20, v21, v22, v23, v24, v25, v26, v27, v28, v29, v30, v31, v32])) 10 30 v G = G (.inr (10, [v0, v1, v2, v3, v4, v5, v6, v7, v8, v9, v10, v11, v12, v13, v14, v15, v16, v17, v18, v19, v20, v21, v22, v23, v24, v25, v26, v27, v28, v29, v, v31, v32])) := rfl
theorem zg10_31 : zgf (.inr (10, [v0, v1, v2, v3, v4, v5, v6, v7, v8, v9, v10, v11, v12, v13, v14, v15, v16, v17, v18, v19, v20, v21, v22, v23, v24, v25, v26, v27, v28, v29, v30, v31, v32])) 10 31 F = F v31 := rfl
theorem zp10_31 : zpf (.inr (10, [v0, v1, v2, v3, v4, v5, v6, v7, v8, v9, v10, v11, v12, v13, v14, v15, v16, v17, v18, v19, v20, v21, v22, v23, v24, v25, v26, v27, v28, v29, v30, v31, v32])) 10 31 v G = G (.inr (10, [v0, v1, v2, v3, v4, v5, v6, v7, v8, v9, v10, v11, v12, v13, v14, v15, v16, v17, v18, v19, v20, v21, v22, v23, v24, v25, v26, v27, v28, v29, v30, v, v32])) := rfl
theorem zg10_32 : zgf (.inr (10, [v0, v1, v2, v3, v4, v5, v6, v7, v8, v9, v10, v11, v12, v13, v14, v15, v16, v17, v18, v19, v20, v21, v22, v23, v24, v25, v26, v27, v28, v29, v30, v31, v32])) 10 32 F = F v32 := rfl
theorem zp10_32 : zpf (.inr (10, [v0, v1, v2, v3, v4, v5, v6, v7, v8, v9, v10, v11, v12, v13, v14, v15, v16, v17, v18, v19, v20, v21, v22, v23, v24, v25, v26, v27, v28, v29, v30, v31, v32])) 10 32 v G = G (.inr (10, [v0, v1, v2, v3, v4, v5, v6, v7, v8, v9, v10, v11, v12, v13, v14, v15, v16, v17, v18, v19, v20, v21, v22, v23, v24, v25, v26, v27, v28, v29, v30, v31, v])) := rfl
end ZF
theorem zrc_eq {ci : Nat} {fs : List Value} {P : Prop} : zrc (.inr (ci, fs)) ci P = P := by simp [zrc]
theorem zal_i {n k : Nat} {f : Nat → Int32} {F : Int32 → Prop} (hk : k < n) (hn : n < 2 ^ 31) : zal (.inl (.int, n, f)) 0 (nI k) F = F (f k) := by
  have h1 : (nI k).toNatClampNeg = k := nI_clamp (by omega)
  have h2 : ¬ (nI k < 0 ∨ n ≤ (nI k).toNatClampNeg) := nI_in hk hn
  simp only [zal, if_true, true_and]
  rw [if_pos h2, h1]
theorem zal_b {n k : Nat} {f : Nat → Int32} {F : Int32 → Prop} (hk : k < n) (hn : n < 2 ^ 31) : zal (.inl (.byte, n, f)) 1 (nI k) F = F (f k) := by
  have h1 : (nI k).toNatClampNeg = k := nI_clamp (by omega)
  have h2 : ¬ (nI k < 0 ∨ n ≤ (nI k).toNatClampNeg) := nI_in hk hn
  simp only [zal, Nat.one_ne_zero, if_false, true_or, true_and]
  rw [if_pos h2, h1]
theorem zal_z {n k : Nat} {f : Nat → Int32} {F : Int32 → Prop} (hk : k < n) (hn : n < 2 ^ 31) : zal (.inl (.boolean, n, f)) 1 (nI k) F = F (f k) := by
  have h1 : (nI k).toNatClampNeg = k := nI_clamp (by omega)
  have h2 : ¬ (nI k < 0 ∨ n ≤ (nI k).toNatClampNeg) := nI_in hk hn
  simp only [zal, Nat.one_ne_zero, if_false, or_true, true_and]
  rw [if_pos h2, h1]
theorem zas_i {n k : Nat} {f : Nat → Int32} {x : Int32} {F : zC → Prop} (hk : k < n) (hn : n < 2 ^ 31) : zas (.inl (.int, n, f)) 0 (nI k) x F = F (.inl (.int, n, upd f k x)) := by
  have h1 : (nI k).toNatClampNeg = k := nI_clamp (by omega)
  have h2 : ¬ (nI k < 0 ∨ n ≤ (nI k).toNatClampNeg) := nI_in hk hn
  simp only [zas, if_true, true_and]
  rw [if_pos h2, h1]
theorem zas_b {n k : Nat} {f : Nat → Int32} {x : Int32} {F : zC → Prop} (hk : k < n) (hn : n < 2 ^ 31) : zas (.inl (.byte, n, f)) 1 (nI k) x F = F (.inl (.byte, n, upd f k x.toInt8.toInt32)) := by
  have h1 : (nI k).toNatClampNeg = k := nI_clamp (by omega)
  have h2 : ¬ (nI k < 0 ∨ n ≤ (nI k).toNatClampNeg) := nI_in hk hn
  simp only [zas, Nat.one_ne_zero, if_false, true_or, true_and]
  rw [if_pos h2, h1, vp_nar_byte]
theorem zas_z {n k : Nat} {f : Nat → Int32} {x : Int32} {F : zC → Prop} (hk : k < n) (hn : n < 2 ^ 31) : zas (.inl (.boolean, n, f)) 1 (nI k) x F = F (.inl (.boolean, n, upd f k (x &&& 1))) := by
  have h1 : (nI k).toNatClampNeg = k := nI_clamp (by omega)
  have h2 : ¬ (nI k < 0 ∨ n ≤ (nI k).toNatClampNeg) := nI_in hk hn
  simp only [zas, Nat.one_ne_zero, if_false, or_true, true_and]
  rw [if_pos h2, h1]
  rfl
theorem zan_eq {ty : FieldType} {n : Nat} {f : Nat → Int32} {F : Int32 → Prop} : zan (.inl (ty, n, f)) F = F (nI n) := rfl
theorem zup_s {h : zH} {a : Nat} {c : zC} : va_up h a c a = c := va_up_self h a c
theorem zup_n {h : zH} {a b : Nat} {c : zC} (e : b ≠ a) : va_up h a c b = h b := va_up_ne h c e
theorem zup_up {h : zH} {a : Nat} {c d : zC} : va_up (va_up h a c) a d = va_up h a d := bx_uu h a c d
theorem zup_id {h : zH} {a : Nat} {c : zC} (e : h a = c) : va_up h a c = h := by
  funext j
  by_cases hj : j = a
  · subst hj; rw [va_up_self, e]
  · rw [va_up_ne _ _ hj]
theorem zc0 : (0 : Int32) = nI 0 := rfl
theorem zc1 : (1 : Int32) = nI 1 := rfl
theorem zc2 : (2 : Int32) = nI 2 := rfl
theorem zc3 : (3 : Int32) = nI 3 := rfl
theorem zc4 : (4 : Int32) = nI 4 := rfl
theorem zc5 : (5 : Int32) = nI 5 := rfl
theorem zc6 : (6 : Int32) = nI 6 := rfl
theorem zc7 : (7 : Int32) = nI 7 := rfl
theorem zc8 : (8 : Int32) = nI 8 := rfl
theorem zc9 : (9 : Int32) = nI 9 := rfl
theorem zc10 : (10 : Int32) = nI 10 := rfl
theorem zc11 : (11 : Int32) = nI 11 := rfl
theorem zc12 : (12 : Int32) = nI 12 := rfl
theorem zc13 : (13 : Int32) = nI 13 := rfl
theorem zc14 : (14 : Int32) = nI 14 := rfl
theorem zc15 : (15 : Int32) = nI 15 := rfl
theorem zc16 : (16 : Int32) = nI 16 := rfl
theorem zc17 : (17 : Int32) = nI 17 := rfl
theorem zc18 : (18 : Int32) = nI 18 := rfl
theorem zc19 : (19 : Int32) = nI 19 := rfl
theorem zc20 : (20 : Int32) = nI 20 := rfl
theorem zc21 : (21 : Int32) = nI 21 := rfl
theorem zc22 : (22 : Int32) = nI 22 := rfl
theorem zc23 : (23 : Int32) = nI 23 := rfl
theorem zc24 : (24 : Int32) = nI 24 := rfl
theorem zc25 : (25 : Int32) = nI 25 := rfl
theorem zc26 : (26 : Int32) = nI 26 := rfl
theorem zc27 : (27 : Int32) = nI 27 := rfl
theorem zc28 : (28 : Int32) = nI 28 := rfl
theorem zc29 : (29 : Int32) = nI 29 := rfl
theorem zc30 : (30 : Int32) = nI 30 := rfl
theorem zc31 : (31 : Int32) = nI 31 := rfl
theorem zc32 : (32 : Int32) = nI 32 := rfl
theorem zc33 : (33 : Int32) = nI 33 := rfl
theorem zc34 : (34 : Int32) = nI 34 := rfl
theorem zc35 : (35 : Int32) = nI 35 := rfl
theorem zc36 : (36 : Int32) = nI 36 := rfl
theorem zc37 : (37 : Int32) = nI 37 := rfl
theorem zc38 : (38 : Int32) = nI 38 := rfl
theorem zc39 : (39 : Int32) = nI 39 := rfl
theorem zc40 : (40 : Int32) = nI 40 := rfl
theorem zc41 : (41 : Int32) = nI 41 := rfl
theorem zc42 : (42 : Int32) = nI 42 := rfl
theorem zc43 : (43 : Int32) = nI 43 := rfl
theorem zc44 : (44 : Int32) = nI 44 := rfl
theorem zc45 : (45 : Int32) = nI 45 := rfl
theorem zc46 : (46 : Int32) = nI 46 := rfl
theorem zc47 : (47 : Int32) = nI 47 := rfl
theorem zc48 : (48 : Int32) = nI 48 := rfl
theorem zc49 : (49 : Int32) = nI 49 := rfl
theorem zc50 : (50 : Int32) = nI 50 := rfl
theorem zc51 : (51 : Int32) = nI 51 := rfl
theorem zc52 : (52 : Int32) = nI 52 := rfl
theorem zc53 : (53 : Int32) = nI 53 := rfl
theorem zc54 : (54 : Int32) = nI 54 := rfl
theorem zc55 : (55 : Int32) = nI 55 := rfl
theorem zc56 : (56 : Int32) = nI 56 := rfl
theorem zc57 : (57 : Int32) = nI 57 := rfl
theorem zc58 : (58 : Int32) = nI 58 := rfl
theorem zc59 : (59 : Int32) = nI 59 := rfl
theorem zc60 : (60 : Int32) = nI 60 := rfl
theorem zc61 : (61 : Int32) = nI 61 := rfl
theorem zc62 : (62 : Int32) = nI 62 := rfl
theorem zc63 : (63 : Int32) = nI 63 := rfl
theorem zc64 : (64 : Int32) = nI 64 := rfl
theorem zc65 : (65 : Int32) = nI 65 := rfl
theorem zc66 : (66 : Int32) = nI 66 := rfl
theorem zc67 : (67 : Int32) = nI 67 := rfl
theorem zc68 : (68 : Int32) = nI 68 := rfl
theorem zc69 : (69 : Int32) = nI 69 := rfl
theorem zc70 : (70 : Int32) = nI 70 := rfl
theorem zc71 : (71 : Int32) = nI 71 := rfl
theorem zc72 : (72 : Int32) = nI 72 := rfl
theorem zc73 : (73 : Int32) = nI 73 := rfl
theorem zc74 : (74 : Int32) = nI 74 := rfl
theorem zc75 : (75 : Int32) = nI 75 := rfl
theorem zc76 : (76 : Int32) = nI 76 := rfl
theorem zc77 : (77 : Int32) = nI 77 := rfl
theorem zc78 : (78 : Int32) = nI 78 := rfl
theorem zc79 : (79 : Int32) = nI 79 := rfl
theorem zc80 : (80 : Int32) = nI 80 := rfl
theorem zc81 : (81 : Int32) = nI 81 := rfl
theorem zc82 : (82 : Int32) = nI 82 := rfl
theorem zc83 : (83 : Int32) = nI 83 := rfl
theorem zc84 : (84 : Int32) = nI 84 := rfl
theorem zc85 : (85 : Int32) = nI 85 := rfl
theorem zc86 : (86 : Int32) = nI 86 := rfl
theorem zc87 : (87 : Int32) = nI 87 := rfl
theorem zc88 : (88 : Int32) = nI 88 := rfl
theorem zc89 : (89 : Int32) = nI 89 := rfl
theorem zc90 : (90 : Int32) = nI 90 := rfl
theorem zc91 : (91 : Int32) = nI 91 := rfl
theorem zc92 : (92 : Int32) = nI 92 := rfl
theorem zc93 : (93 : Int32) = nI 93 := rfl
theorem zc94 : (94 : Int32) = nI 94 := rfl
theorem zc95 : (95 : Int32) = nI 95 := rfl
theorem zc96 : (96 : Int32) = nI 96 := rfl
theorem zc97 : (97 : Int32) = nI 97 := rfl
theorem zc98 : (98 : Int32) = nI 98 := rfl
theorem zc99 : (99 : Int32) = nI 99 := rfl
theorem zc100 : (100 : Int32) = nI 100 := rfl
theorem zc101 : (101 : Int32) = nI 101 := rfl
theorem zc102 : (102 : Int32) = nI 102 := rfl
theorem zc103 : (103 : Int32) = nI 103 := rfl
theorem zc104 : (104 : Int32) = nI 104 := rfl
theorem zc105 : (105 : Int32) = nI 105 := rfl
theorem zc106 : (106 : Int32) = nI 106 := rfl
theorem zc107 : (107 : Int32) = nI 107 := rfl
theorem zc108 : (108 : Int32) = nI 108 := rfl
theorem zc109 : (109 : Int32) = nI 109 := rfl
theorem zc110 : (110 : Int32) = nI 110 := rfl
theorem zc111 : (111 : Int32) = nI 111 := rfl
theorem zc112 : (112 : Int32) = nI 112 := rfl
theorem zc113 : (113 : Int32) = nI 113 := rfl
theorem zc114 : (114 : Int32) = nI 114 := rfl
theorem zc115 : (115 : Int32) = nI 115 := rfl
theorem zc116 : (116 : Int32) = nI 116 := rfl
theorem zc117 : (117 : Int32) = nI 117 := rfl
theorem zc118 : (118 : Int32) = nI 118 := rfl
theorem zc119 : (119 : Int32) = nI 119 := rfl
theorem zc120 : (120 : Int32) = nI 120 := rfl
theorem zc255 : (255 : Int32) = nI 255 := rfl
theorem zc400 : (400 : Int32) = nI 400 := rfl
theorem zc999 : (999 : Int32) = nI 999 := rfl
theorem zc1777 : (1777 : Int32) = nI 1777 := rfl
theorem zc2711 : (2711 : Int32) = nI 2711 := rfl
theorem zc7919 : (7919 : Int32) = nI 7919 := rfl
theorem zc9999 : (9999 : Int32) = nI 9999 := rfl
theorem zc10000 : (10000 : Int32) = nI 10000 := rfl
theorem znI_le {a b : Nat} (ha : a < 2 ^ 31) (hb : b < 2 ^ 31) : (nI a ≤ nI b) = (a ≤ b) := propext (nI_leI ha hb)
theorem znI_lt {a b : Nat} (ha : a < 2 ^ 31) (hb : b < 2 ^ 31) : (nI a < nI b) = (a < b) := propext (nI_ltI ha hb)
theorem znI_eq {a b : Nat} (ha : a < 2 ^ 31) (hb : b < 2 ^ 31) : (nI a = nI b) = (a = b) := propext (nI_eq ha hb)
theorem zdsub {a b : Nat} (h : b ≤ a) : nI a - nI b = nI (a - b) := pk_sub h
theorem z10 : ((1 : Int32) = 0) = False := by decide
theorem z00 : ((0 : Int32) = 0) = True := by decide
theorem z01b : ((0 : Int32) = 0 ∨ (0 : Int32) = 1) = True := by decide
theorem z11b : ((1 : Int32) = 0 ∨ (1 : Int32) = 1) = True := by decide
theorem zite_and {c d : Prop} [Decidable c] [Decidable d] {A B : Prop} : (if c ∧ d then A else B) = (if c then (if d then A else B) else B) := by
  by_cases hc : c <;> by_cases hd : d <;> simp [hc, hd]
theorem zlt_le {a b : Int32} : (a < b) = ¬ (b ≤ a) := propext Int32.not_le.symm
/-- only these cells have changed -/
def zfr (P : Nat → Prop) (h h' : zH) : Prop := ∀ a, ¬ P a → h' a = h a
theorem zfr.rf {P : Nat → Prop} {h : zH} : zfr P h h := fun _ _ => rfl
theorem zfr.up {P : Nat → Prop} {h h' : zH} {a : Nat} {c : zC} (ha : P a) (f : zfr P (va_up h a c) h') : zfr P h h' := fun b hb => (f b hb).trans (va_up_ne _ _ (fun e => hb (by rw [e]; exact ha)))
theorem zfr.tr {P : Nat → Prop} {h h1 h' : zH} (f : zfr P h h1) (g : zfr P h1 h') : zfr P h h' := fun a ha => (g a ha).trans (f a ha)
theorem zfr.mono {P R : Nat → Prop} {h h' : zH} (f : zfr P h h') (e : ∀ a, P a → R a) : zfr R h h' := fun a ha => f a (fun q => ha (e a q))
