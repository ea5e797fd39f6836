section
abbrev cL_dice : ByteArray := method_2_code
def yL_dice : MethodName := ⟨RLw, "dice", "([II)I"⟩
abbrev cL_act : ByteArray := method_3_code
def yL_act : MethodName := ⟨RLw, "act", "(LReconcilerHall;IIIIIII)I"⟩
abbrev cL_of : ByteArray := method_4_code
def yL_of : MethodName := ⟨RLw, "of", "(LReconcilerHall;IIII)I"⟩
abbrev cL_like : ByteArray := method_5_code
def yL_like : MethodName := ⟨RLw, "like", "(LReconcilerHall;I)J"⟩
abbrev cL_all : ByteArray := method_6_code
def yL_all : MethodName := ⟨RLw, "all", "(LReconcilerHall;)J"⟩
abbrev cL_areVersions : ByteArray := method_7_code
def yL_areVersions : MethodName := ⟨RLw, "areVersions", "(LReconcilerHall;[I)Z"⟩
abbrev cL_areQueues : ByteArray := method_8_code
def yL_areQueues : MethodName := ⟨RLw, "areQueues", "(LReconcilerHall;)Z"⟩
abbrev cL_areObjects : ByteArray := method_9_code
def yL_areObjects : MethodName := ⟨RLw, "areObjects", "(LReconcilerHall;)Z"⟩
abbrev cL_isAtRest : ByteArray := method_10_code
def yL_isAtRest : MethodName := ⟨RLw, "isAtRest", "(LReconcilerHall;)Z"⟩
abbrev cL_isWorked : ByteArray := method_11_code
def yL_isWorked : MethodName := ⟨RLw, "isWorked", "(LReconcilerHall;I)Z"⟩
abbrev cL_isRefused : ByteArray := method_12_code
def yL_isRefused : MethodName := ⟨RLw, "isRefused", "(LReconcilerHall;I)Z"⟩
abbrev cL_law : ByteArray := code
def yL_law : MethodName := ⟨RLw, "law", "([I)Z"⟩
end
