theorem hid.out {p : Prop} (h : hid p) : p := h
